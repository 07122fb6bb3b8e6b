/-! Part 26: the machine is sound: calls, all instructions, all methods -/
section AMS2
variable {p : Program} {l : Launch} {e : Env} {s : State} {m : MethodId} {args : Array Value} {below : List Frame} {meth : Method} {c : Code} {H : Heap} {locs : List Loc}
variable {G : am_G} {cl : List vw_C} {own xn : Nat → String} {host : String} {WS : List Cond} {D : va_G} {cA : Nat → ClassId} {b0 b L d : Nat} {xs : Nat → Int32} {Z : State → Prop} {M : am_M}
/-- contracts of all methods, d calls deep -/
def am_HC (C : Nat → List Value → am_H → am_O → am_H → Prop) (l : Launch) (G : am_G) (cl : List vw_C) (own xn : Nat → String) (WS : List Cond) (D : va_G) (cA : Nat → ClassId) (b0 b L d : Nat) (xs : Nat → Int32) (Z : State → Prop) : Prop :=
  ∀ (j : Nat) (as : List Value) (h : am_H) (o : am_O) (h' : am_H), C j as h o h' → am_okm G own WS j →
    am_MX l (am_y (am_mt G j)) (am_cw (am_mt G j) :: WS) (am_rm d (am_mt G j)) (am_Pc G cl own D cA b0 b L xs Z as h) (am_Qc G cl xn D cA b0 b L xs o h') (am_mc (am_mt G j)) (am_ms (am_mt G j)) (fun q => b ≤ q)
theorem am_snd_inv (hZ3 : ∀ s : State, Z s → ∀ x y, x < 4 → y < 4 → x ≠ y → va_Nc (xn x) (xn y) s) {C : Nat → List Value → am_H → am_O → am_H → Prop} {k : Nat → List (Nat × Value) → List Value → am_H → Nat → Nat → Prop} {oM : am_O} {hM : am_H} (hWF : am_WF G cl own xn host WS) (hZm : ∀ (s U : State), Z s → s.vm.Alike U.vm → (∀ q : Nat, q < s.heap.size → ¬ b ≤ q → U.heap[q]? = s.heap[q]?) → Z U)
    (hMj : ∃ jM, M = am_mt G jM) (hC : am_HC C l G cl own xn WS D cA b0 b L d xs Z) (hF : am_F own WS M p m args meth c s) (hY : am_Y G cl own D cA b0 b L xs s) (hZ : Z s)
    (hk : am_K k G cl D cA b0 b L xs M p l e (am_rm (d + 1) M) s m args below meth c (am_MQ below (am_Qc G cl xn D cA b0 b L xs oM hM) args s (am_mc M) (am_ms M) (fun q => b ≤ q)))
    {j pc cn un : Nat} {as : List Value} {al : List (Nat × Value)} {rest : List Value} {h : am_H} {ls : Array Slot} {st : List Value} {ig : Instr} {mk : MethodId} (hok : am_okm G own WS j) (hh : am_inv C G M k (fun o1 h1 => o1 = oM ∧ h1 = hM) j as pc al rest h cn un)
    (hn : s.methodNamed? (am_y (am_mt G j)) = some mk) (hd : decode (am_b M) pc = .ok (ig, 3))
    (hgo : am_Go p l e (am_rm (d + 1) M) s m args below meth c H locs cn un (F0 m pc ls (st.map (am_tv b0 b))) (rest.map (am_tv b0 b)) mk (as.map (am_tv b0 b)).toArray)
    (hX : am_X G cl D cA b0 b L xs h H) (hS : va_S (fun q => b ≤ q) s.heap H locs) (hl : lv_has ls (am_mL M) (am_tl b0 b al)) :
    W p l e (am_rm (d + 1) M) s m args below meth c H locs cn un (am_MQ below (am_Qc G cl xn D cA b0 b L xs oM hM) args s (am_mc M) (am_ms M) (fun q => b ≤ q)) (F0 m pc ls (st.map (am_tv b0 b))) := by
  obtain ⟨hw8, hcn, hun, o, h', hCj, hh⟩ := hh
  have hMX := hC j as h o h' hCj hok
  have hP : ∀ U : State, U.heap = H → s.WarmedH U.vm → am_Pc G cl own D cA b0 b L xs Z as h (as.map (am_tv b0 b)).toArray U := fun U hU hW =>
    ⟨rfl, by rw [hU]; exact hX, am_Y_mv hY hW.alike hU hX hS, hZm s U hZ hW.alike (fun q h1 h2 => by rw [hU]; exact hS.2.1 q h1 h2)⟩
  have hlo : 8 + (am_mL (am_mt G j) + 11) + (am_rm d (am_mt G j)).locals ≤ (am_rm (d + 1) M).locals := by
    have := hok.2.2.2.2.1
    show 8 + (am_mL (am_mt G j) + 11) + 40 * d ≤ 40 * (d + 1)
    omega
  cases o with
  | inl v =>
    have hh : k (pc + 3) al (v.toList ++ rest) h' (cn + am_mc (am_mt G j)) (un + am_ms (am_mt G j)) := hh
    have hB := am_back (R := am_rm (d + 1) M) (p := p) (e := e) (below := below) hWF.1 hok hF.2.2.2.2.1 (am_MX_met (fun a st o t hq => ⟨_, hq.1⟩) hMX) (am_blind hZm as h) rfl rfl (Nat.le_refl _) hlo
    refine am_ret hgo hB hn rfl (by rw [hF.2.2.1]; exact hl.1) (by rw [hF.2.1]; exact hd) (by show 2 * 0 + _ ≤ 8; rw [am_w8_map]; omega) hcn hun hP hS (fun H1 locs1 hX1 hS1 => ?_)
    have := hk _ _ _ _ _ _ H1 locs1 ls hh hX1 hS1 hl hcn hun
    rw [List.map_append] at this
    have e9 : (v.toList).map (am_tv b0 b) = (v.map (am_tv b0 b)).toList := by cases v <;> rfl
    rw [e9] at this
    exact this
  | inr x =>
    obtain ⟨hx, hb, hml, hown, hts, hr, hlk, hnm, htab⟩ := id hF
    obtain ⟨mk', methM, cM, hn', hm, hcM, hlM, -⟩ := am_named (hts _ hok.2.2.2.2.2.2)
    cases hn.symm.trans hn'
    have hws := am_words hWF.1 hok hts
    intro T hT X
    obtain ⟨vm₁, hW₁, X₁, hst⟩ := hgo T hT X
    obtain ⟨xa, T', t, st0, Ls, X', hL, e1, e2, e3, ⟨⟨ce, z1, z2, z3, z4⟩, hX', hF'⟩, hsteps⟩ := am_thr (maxL := am_mL (am_mt G j)) hMX (am_blind hZm as h) rfl rfl (Nat.le_refl _) hlo hws (by rw [X₁.warmed.alike.method?]; exact hm) hcM hlM (fun a' U hW => hws _ (List.mem_cons_of_mem _ hok.2.2.2.2.2.1) a' U hW) X₁ (g := { F0 m pc ls (st.map (am_tv b0 b)) with stack := rest.map (am_tv b0 b) }) rfl (by rw [hml]; exact hl.1) (by rw [hb]; exact hd) (by show 2 * 0 + _ ≤ 8; rw [am_w8_map]; omega) (X₁.named hn) hcn hun (hP _ hT hW₁) (fun st oc t hq => by obtain ⟨⟨ce, h1, -⟩, -⟩ := hq; exact ⟨_, h1⟩)
    have z1 : Outcome.threw xa = .threw (am_ad b0 b (am_n h' + am_g h')) := z1
    cases z1
    have e3 : st0.heap = H := e3.trans hT
    have hz : H.size ≤ T'.heap.size := by rw [e1, ← e3]; exact hF'.1
    have hkp : ∀ q : Nat, q < H.size → ¬ b ≤ q → T'.heap[q]? = H[q]? := fun q u1 u2 => by
      rw [e1, ← e3]
      exact hF'.2 q (by rw [e3]; exact u1) u2
    have hS' : va_S (fun q => b ≤ q) s.heap T'.heap (locs ++ Ls) := ⟨Nat.le_trans hS.1 hz, fun q u1 u2 => (hkp q (Nat.lt_of_lt_of_le u1 hS.1) u2).trans (hS.2.1 q u1 u2), fun q hq => by
      rcases List.mem_append.mp hq with h9 | h9
      · exact hS.2.2 q h9
      · exact hL q h9⟩
    have hX' : am_X G cl D cA b0 b L xs h' T'.heap := by rw [e1]; exact hX'
    have z2 : T'.heap[am_ad b0 b (am_n h' + am_g h')]? = some ce := by rw [e1]; exact z2
    have z4 : s.vm.findClass (xn x) = some ce.cls := by
      have : T'.vm.findClass (xn x) = some ce.cls := by rw [e2]; exact z4
      rw [X'.warmed.alike.findClass] at this
      exact this
    unfold am_cont at hh
    simp only at hh
    split at hh
    · rename_i tp htp
      obtain ⟨hx4, hh⟩ := hh
      obtain ⟨jM, rfl⟩ := hMj
      obtain ⟨wgood, wf1, wf3, wf4, wac, war, wkc, wkl, wv0, wv3, ws1, ws4, wi2, wo7, wc8, wm10, wm11, whs, wx5⟩ := id hWF
      have hall : ∀ y ∈ c.exceptionTable.toList, y.catchType ≠ 0 ∧ (Cond.classLink (own (am_o (am_mt G jM))) y.catchType (xn (am_pl G (am_o (am_mt G jM)) y.catchType).2.1)).before args s = true ∧ ((am_pl G (am_o (am_mt G jM)) y.catchType).2.1 ≠ x → va_Nc (xn x) (xn (am_pl G (am_o (am_mt G jM)) y.catchType).2.1) s) := by
        intro y hy
        have hq : (y.startPc, y.endPc, y.handlerPc, y.catchType) ∈ am_hs (am_mt G jM) := by
          rw [← htab]
          exact List.mem_map.mpr ⟨y, hy, rfl⟩
        obtain ⟨g1, g2, g3, g5⟩ := whs jM _ hq
        exact ⟨g1, hts _ g2, fun g4 => hZ3 s hZ _ _ hx4 g3 (Ne.symm g4)⟩
      have hne : ∃ q, q ∈ am_hs (am_mt G jM) := by
        cases hz9 : am_hs (am_mt G jM) with
        | nil => rw [hz9] at htp; cases htp
        | cons q r => exact ⟨q, List.mem_cons_self⟩
      obtain ⟨q9, hq9⟩ := hne
      have hself : s.vm.assignable ce.cls ce.cls = true := by
        obtain ⟨c3, cT, hc3, hcT, hasg⟩ := Cond.castable_spec (hts _ ((whs jM q9 hq9).2.2.2 x hx4))
        cases z4.symm.trans hc3
        cases z4.symm.trans hcT
        exact hasg
      obtain ⟨vm', X9, hst9⟩ := am_catch X' (f9 := fun i => (am_pl G (am_o (am_mt G jM)) i).2.1) (xn := xn) (x := x) (t := tp) (g := { F0 m pc ls (st.map (am_tv b0 b)) with stack := rest.map (am_tv b0 b) }) rfl hown z4 rfl (by rw [z3]; rfl) hself z2 hall (by rw [htab]; exact htp)
      obtain ⟨t2, x1, x2⟩ := hk _ _ _ _ _ _ T'.heap (locs ++ Ls) ls hh hX' hS' hl hcn hun (T'.setVm vm') rfl X9
      exact ⟨t2, hst _ (hsteps.trans (hst9 _ x1)), x2⟩
    · obtain ⟨hs0, rfl, rfl⟩ := hh
      have hout : ∀ y ∈ c.exceptionTable.toList, covers y pc = false := by
        rw [hs0] at htab
        intro y hy
        have : c.exceptionTable.toList = [] := List.map_eq_nil_iff.mp htab
        rw [this] at hy
        cases hy
      obtain ⟨w1, w2, w3, w4, w5⟩ := (stand_widen X' hcn hun).leaveThrown (am_ad b0 b (am_n h' + am_g h')) (g := { F0 m pc ls (st.map (am_tv b0 b)) with stack := rest.map (am_tv b0 b) }) rfl rfl rfl hout hlk
      exact ⟨_, hst _ (hsteps.trans w1), _, w2, w3, ⟨⟨ce, rfl, z2, z3, by
        have : T'.vm.findClass (xn x) = some ce.cls := by rw [X'.warmed.alike.findClass]; exact z4
        exact this⟩, hX', ⟨hS'.1, fun q u1 u2 => hS'.2.1 q u1 u2⟩⟩, _, ⟨w4, w5⟩, hS'.2.2⟩
theorem am_split (f : Value → Value) (st : List Value) (n : Nat) : st.map f = ((st.take n).reverse.map f).reverse ++ (st.drop n).map f := by
  rw [List.map_reverse, List.reverse_reverse, ← List.map_append, List.take_append_drop]
theorem am_len9 (f : Value → Value) {st : List Value} {n : Nat} (h : n ≤ st.length) : ((st.take n).reverse.map f).length = n := by
  rw [List.length_map, List.length_reverse, List.length_take]
  omega
theorem am_np9 {j : Nat} (hok : am_okm G own WS j) {sig : MethodDescriptor} (h : parseMethodDescriptor (am_y (am_mt G j)).desc = some sig) : sig.parameters.length = am_np (am_mt G j) := by
  have := hok.2.2.2.1
  rw [h] at this
  exact Option.some.inj this
theorem am_recv9 (hY : am_Y G cl own D cA b0 b L xs s) {h : am_H} (hX : am_X G cl D cA b0 b L xs h H) {ci a : Nat} {T : u_T} (hc : cl[ci]? = some (own ci, T, am_nf G ci)) (hlt : ci < 100) (hs : am_sh h a = some (ci, am_nf G ci)) : ∃ cell : Cell, H[am_ad b0 b a]? = some cell ∧ cell.vm.isStatics = false ∧ s.vm.findClass (own ci) = some cell.cls := by
  obtain ⟨-, -, hat⟩ := am_obj_at hX hs (by omega)
  rw [am_ce_o hs hlt] at hat
  exact va_recv hY.1 hX.1 hc hat
set_option maxHeartbeats 4000000 in
theorem am_snd_do (hZ3 : ∀ s : State, Z s → ∀ x y, x < 4 → y < 4 → x ≠ y → va_Nc (xn x) (xn y) s) {oM : am_O} (hlv : ∀ x, oM = .inr x → 5 < d + 1) (htr : l.stackTraces = false) (hZ2 : ∀ s : State, Z s → ∀ a9 : Array Value, ∀ w ∈ am_zw, w.before a9 s = true) {C : Nat → List Value → am_H → am_O → am_H → Prop} {k : Nat → List (Nat × Value) → List Value → am_H → Nat → Nat → Prop} {hM : am_H} (hWF : am_WF G cl own xn host WS) (hZm : ∀ (s U : State), Z s → s.vm.Alike U.vm → (∀ q : Nat, q < s.heap.size → ¬ b ≤ q → U.heap[q]? = s.heap[q]?) → Z U)
    (hMj : ∃ jM, M = am_mt G jM) (hC : am_HC C l G cl own xn WS D cA b0 b L d xs Z) (hF : am_F own WS M p m args meth c s) (hY : am_Y G cl own D cA b0 b L xs s) (hZ : Z s)
    (hk : am_K k G cl D cA b0 b L xs M p l e (am_rm (d + 1) M) s m args below meth c (am_MQ below (am_Qc G cl xn D cA b0 b L xs oM hM) args s (am_mc M) (am_ms M) (fun q => b ≤ q)))
    {ins : Instr} {len pc cn un : Nat} {al : List (Nat × Value)} {h : am_H} {ls : Array Slot} {st : List Value} (hd : decode (am_b M) pc = .ok (ins, len)) (hh : am_do C G M k (fun o1 h1 => o1 = oM ∧ h1 = hM) ins len pc al st h cn un)
    (hX : am_X G cl D cA b0 b L xs h H) (hS : va_S (fun q => b ≤ q) s.heap H locs) (hl : lv_has ls (am_mL M) (am_tl b0 b al)) (hc : cn ≤ am_mc M) (hu : un ≤ am_ms M) :
    W p l e (am_rm (d + 1) M) s m args below meth c H locs cn un (am_MQ below (am_Qc G cl xn D cA b0 b L xs oM hM) args s (am_mc M) (am_ms M) (fun q => b ≤ q)) (F0 m pc ls (st.map (am_tv b0 b))) := by
  obtain ⟨hx, hb, hml, hown, hts, hr, hlk, hnm, htab⟩ := id hF
  obtain ⟨wgood, wf1, wf3, wf4, wac, war, wkc, wkl, wv0, wv3, ws1, ws4, wi2, wo7, wc8, wm10, wm11, whs, wx5⟩ := id hWF
  cases ins with
  | iload_n i =>
    obtain ⟨rfl, hh⟩ := hh
    obtain ⟨x, h1, h2⟩ := am_vi_s hh
    exact lv_iload_n hx hb hd rfl (am_lk_at hl h1) (hk _ _ _ _ _ _ _ _ _ h2 hX hS hl hc hu)
  | iload i =>
    obtain ⟨rfl, hh⟩ := hh
    obtain ⟨x, h1, h2⟩ := am_vi_s hh
    exact lv_iload hx hb hd (am_lk_at hl h1) (hk _ _ _ _ _ _ _ _ _ h2 hX hS hl hc hu)
  | lload_n i =>
    obtain ⟨rfl, hh⟩ := hh
    obtain ⟨x, h1, h2⟩ := am_vl_s hh
    exact lv_lload_n hx hb hd rfl (am_lk_at hl h1) (hk _ _ _ _ _ _ _ _ _ h2 hX hS hl hc hu)
  | lload i =>
    obtain ⟨rfl, hh⟩ := hh
    obtain ⟨x, h1, h2⟩ := am_vl_s hh
    exact lv_lload hx hb hd (am_lk_at hl h1) (hk _ _ _ _ _ _ _ _ _ h2 hX hS hl hc hu)
  | aload_n i =>
    obtain ⟨rfl, hh⟩ := hh
    obtain ⟨x, h1, h2⟩ := am_vr_s hh
    exact lv_aload_n hx hb hd rfl (am_lk_at hl h1) (hk _ _ _ _ _ _ _ _ _ h2 hX hS hl hc hu)
  | aload i =>
    obtain ⟨rfl, hh⟩ := hh
    obtain ⟨x, h1, h2⟩ := am_vr_s hh
    exact lv_aload hx hb hd (am_lk_at hl h1) (hk _ _ _ _ _ _ _ _ _ h2 hX hS hl hc hu)
  | istore_n i =>
    obtain ⟨rfl, hi, hh⟩ := hh
    obtain ⟨x, r, rfl, h2⟩ := am_sti_s hh
    exact lv_istore_n (lv' := am_tl b0 b (am_s1 al i (.int x))) hx hb hd rfl hl hi (by rw [am_tl_filter]; rfl) (fun ls' hl' => hk _ _ _ _ _ _ _ _ _ h2 hX hS hl' hc hu)
  | istore i =>
    obtain ⟨rfl, hi, hh⟩ := hh
    obtain ⟨x, r, rfl, h2⟩ := am_sti_s hh
    exact lv_istore (lv' := am_tl b0 b (am_s1 al i (.int x))) hx hb hd hl hi (by rw [am_tl_filter]; rfl) (fun ls' hl' => hk _ _ _ _ _ _ _ _ _ h2 hX hS hl' hc hu)
  | astore_n i =>
    obtain ⟨rfl, hi, hh⟩ := hh
    obtain ⟨x, r, rfl, h2⟩ := am_str_s hh
    exact lv_astore_n (lv' := am_tl b0 b (am_s1 al i (.ref x))) hx hb hd rfl hl hi (by rw [am_tl_filter]; rfl) (fun ls' hl' => hk _ _ _ _ _ _ _ _ _ h2 hX hS hl' hc hu)
  | astore i =>
    obtain ⟨rfl, hi, hh⟩ := hh
    obtain ⟨x, r, rfl, h2⟩ := am_str_s hh
    exact lv_astore (lv' := am_tl b0 b (am_s1 al i (.ref x))) hx hb hd hl hi (by rw [am_tl_filter]; rfl) (fun ls' hl' => hk _ _ _ _ _ _ _ _ _ h2 hX hS hl' hc hu)
  | iinc i n =>
    obtain ⟨rfl, hi, hh⟩ := hh
    obtain ⟨x, h1, h2⟩ := am_vi_s hh
    obtain ⟨k9, hk9⟩ := List.getElem?_of_mem (show (i, Value.int x) ∈ am_tl b0 b al from List.mem_map.mpr ⟨(i, .int x), am_lk_mem h1, rfl⟩)
    exact lv_iinc (lv' := am_tl b0 b (am_s1 al i (.int (x + Int32.ofInt n)))) hx hb hd hl hk9 rfl hi (by rw [am_tl_filter]; rfl) (fun ls' hl' => hk _ _ _ _ _ _ _ _ _ h2 hX hS hl' hc hu)
  | irem =>
    obtain ⟨rfl, hh⟩ := hh
    split at hh
    · rename_i y x r
      obtain ⟨hne, hh⟩ := hh
      exact lv_irem hx hb hd hne (hk _ _ _ _ _ _ _ _ _ hh hX hS hl hc hu)
    · exact hh.elim
  | ldc i =>
    obtain ⟨rfl, hh⟩ := hh
    obtain ⟨x, h1, h2⟩ := am_vi_s hh
    exact lv_ldc hx hb hown (hts _ (wkc _ _ _ h1)) hd (hk _ _ _ _ _ _ _ _ _ h2 hX hS hl hc hu)
  | ldc_w i =>
    obtain ⟨rfl, hh⟩ := hh
    obtain ⟨x, h1, h2⟩ := am_vi_s hh
    exact lv_ldcw hx hb hown (hts _ (wkc _ _ _ h1)) hd (hk _ _ _ _ _ _ _ _ _ h2 hX hS hl hc hu)
  | ldc2_w i =>
    obtain ⟨rfl, hh⟩ := hh
    obtain ⟨x, h1, h2⟩ := am_vl_s hh
    exact lv_ldc2 hx hb hown (hts _ (wkl _ _ _ h1)) hd (hk _ _ _ _ _ _ _ _ _ h2 hX hS hl hc hu)
  | getfield i =>
    obtain ⟨rfl, hh⟩ := hh
    obtain ⟨a, r, rfl, hh⟩ := am_str_s hh
    unfold am_get at hh
    split at hh
    · rename_i ci fi hpl
      obtain ⟨h1, h2, hh⟩ := hh
      by_cases h9 : am_ft G ci fi % 10 = 2
      · rw [if_pos h9] at hh
        obtain ⟨j, hj, hh⟩ := am_so_s hh
        exact am_r_get hx hb hts hown hY (wf1 _ _ _ _ hpl) hX hpl h1 h2 hd (v := .ref (am_ad b0 b j)) (by rw [if_pos h9, hj]; rfl) (hk _ _ _ _ _ _ _ _ _ hh hX hS hl hc hu)
      · rw [if_neg h9] at hh
        exact am_r_get hx hb hts hown hY (wf1 _ _ _ _ hpl) hX hpl h1 h2 hd (v := .int (am_I h a fi)) (by rw [if_neg h9]) (hk _ _ _ _ _ _ _ _ _ hh hX hS hl hc hu)
    · exact hh.elim
  | putfield i =>
    obtain ⟨rfl, hh⟩ := hh
    obtain ⟨v, a, r, rfl, hh9⟩ := am_stv_s hh
    clear hh
    have hh := hh9
    clear hh9
    unfold am_put at hh
    split at hh
    · rename_i ci fi hpl
      obtain ⟨h1, h2, h3, hh⟩ := hh
      have hok := wf1 _ _ _ _ hpl
      have hlt : ci < 100 := by
        obtain ⟨T, ty, -, q, -⟩ := hok
        exact q
      obtain ⟨h0, hn, -⟩ := am_obj_at hX h1 (by omega)
      have hf : am_ft G ci fi < 10 ∨ (meth.name = "<init>" ∧ own (am_o M) = own ci) := by
        rcases h3 with h3 | ⟨h3, h4⟩
        · exact Or.inl h3
        · exact Or.inr ⟨hnm.trans h3, by rw [h4]⟩
      split at hh
      · rename_i x
        obtain ⟨h4, hh⟩ := hh
        have h5 : ¬ am_ft G ci fi % 10 = 2 := by omega
        refine am_r_put hx hb hts hown hY hok hX hS hpl h1 h2 hf hd (v := .int x) ?_ (fun H1 locs1 g1 g2 g3 g4 => hk _ _ _ _ _ _ H1 locs1 ls hh (am_X_of hX h0 hn rfl rfl rfl (am_u2_ne _ _ _ (Ne.symm h0)) ?_ (fun y hy => am_ce_eq rfl rfl (am_u2_ne _ _ _ hy) rfl) g1 g2 g3) g4 hl hc hu)
        · rcases h4 with h4 | ⟨h4, h6 | h6⟩
          · exact Or.inl ⟨h4, x, rfl⟩
          · exact Or.inr (Or.inl ⟨h4, Or.inl (by rw [h6])⟩)
          · exact Or.inr (Or.inl ⟨h4, Or.inr (by rw [h6])⟩)
        · rw [am_ce_o (h := am_setI h (am_u2 (am_I h) a fi x)) h1 hlt]
          refine congrArg (fun z => Sum.inr (ci, z)) (am_rset (fun j hj => ?_) ?_).symm
          · show (if am_ft G ci j % 10 = 2 then _ else Value.int (am_u2 (am_I h) a fi x a j)) = _
            rw [am_u2_eq]
            simp [hj]
            rfl
          · show (if am_ft G ci fi % 10 = 2 then _ else Value.int (am_u2 (am_I h) a fi x a fi)) = _
            rw [if_neg h5, am_u2_eq]
            simp
      · rename_i j
        obtain ⟨h4, hh⟩ := hh
        refine am_r_put hx hb hts hown hY hok hX hS hpl h1 h2 hf hd (v := .ref (am_ad b0 b j)) (Or.inr (Or.inr ⟨h4, _, rfl⟩)) (fun H1 locs1 g1 g2 g3 g4 => hk _ _ _ _ _ _ H1 locs1 ls hh (am_X_of hX h0 hn rfl rfl rfl rfl ?_ (fun y hy => am_ce_eq rfl (am_u2_ne _ _ _ hy) rfl rfl) g1 g2 g3) g4 hl hc hu)
        rw [am_ce_o (h := am_setP h (am_u2 (am_P h) a fi (some j))) h1 hlt]
        refine congrArg (fun z => Sum.inr (ci, z)) (am_rset (fun y hy => ?_) ?_).symm
        · show (if am_ft G ci y % 10 = 2 then va_rf ((am_u2 (am_P h) a fi (some j) a y).map (am_ad b0 b)) else _) = _
          rw [am_u2_eq]
          simp [hy]
          rfl
        · show (if am_ft G ci fi % 10 = 2 then va_rf ((am_u2 (am_P h) a fi (some j) a fi).map (am_ad b0 b)) else _) = _
          rw [if_pos h4, am_u2_eq]
          simp [va_rf]
      · exact hh.elim
    · exact hh.elim
  | iaload =>
    obtain ⟨rfl, hh⟩ := hh
    obtain ⟨i, r1, rfl, hh2⟩ := am_sti_s hh
    obtain ⟨a, r, rfl, hh3⟩ := am_str_s hh2
    exact am_r_ald hx hb hY hX hS hh3 hd (fun v hv => hk _ _ _ _ _ _ _ _ _ hv hX hS hl hc hu)
  | baload =>
    obtain ⟨rfl, hh⟩ := hh
    obtain ⟨i, r1, rfl, hh2⟩ := am_sti_s hh
    obtain ⟨a, r, rfl, hh3⟩ := am_str_s hh2
    exact am_r_ald hx hb hY hX hS hh3 hd (fun v hv => hk _ _ _ _ _ _ _ _ _ hv hX hS hl hc hu)
  | laload =>
    obtain ⟨rfl, hh⟩ := hh
    obtain ⟨i, r1, rfl, hh2⟩ := am_sti_s hh
    obtain ⟨a, r, rfl, hh3⟩ := am_str_s hh2
    exact am_r_ald hx hb hY hX hS hh3 hd (fun v hv => hk _ _ _ _ _ _ _ _ _ hv hX hS hl hc hu)
  | aaload =>
    obtain ⟨rfl, hh⟩ := hh
    obtain ⟨i, r1, rfl, hh2⟩ := am_sti_s hh
    obtain ⟨a, r, rfl, hh3⟩ := am_str_s hh2
    exact am_r_ald hx hb hY hX hS hh3 hd (fun v hv => hk _ _ _ _ _ _ _ _ _ hv hX hS hl hc hu)
  | iastore =>
    obtain ⟨rfl, hh⟩ := hh
    cases st with
    | nil => exact hh.elim
    | cons v r =>
      obtain ⟨i, r1, rfl, hh2⟩ := am_sti_s hh
      obtain ⟨a, r, rfl, hh3⟩ := am_str_s hh2
      exact am_r_ast hx hb hY wac hX hS hh3 hd (fun h' H1 locs1 hv hX1 hS1 => hk _ _ _ _ _ _ H1 locs1 ls hv hX1 hS1 hl hc hu)
  | bastore =>
    obtain ⟨rfl, hh⟩ := hh
    cases st with
    | nil => exact hh.elim
    | cons v r =>
      obtain ⟨i, r1, rfl, hh2⟩ := am_sti_s hh
      obtain ⟨a, r, rfl, hh3⟩ := am_str_s hh2
      exact am_r_ast hx hb hY wac hX hS hh3 hd (fun h' H1 locs1 hv hX1 hS1 => hk _ _ _ _ _ _ H1 locs1 ls hv hX1 hS1 hl hc hu)
  | lastore =>
    obtain ⟨rfl, hh⟩ := hh
    cases st with
    | nil => exact hh.elim
    | cons v r =>
      obtain ⟨i, r1, rfl, hh2⟩ := am_sti_s hh
      obtain ⟨a, r, rfl, hh3⟩ := am_str_s hh2
      exact am_r_ast hx hb hY wac hX hS hh3 hd (fun h' H1 locs1 hv hX1 hS1 => hk _ _ _ _ _ _ H1 locs1 ls hv hX1 hS1 hl hc hu)
  | aastore =>
    obtain ⟨rfl, hh⟩ := hh
    cases st with
    | nil => exact hh.elim
    | cons v r =>
      obtain ⟨i, r1, rfl, hh2⟩ := am_sti_s hh
      obtain ⟨a, r, rfl, hh3⟩ := am_str_s hh2
      exact am_r_ast hx hb hY wac hX hS hh3 hd (fun h' H1 locs1 hv hX1 hS1 => hk _ _ _ _ _ _ H1 locs1 ls hv hX1 hS1 hl hc hu)
  | arraylength =>
    obtain ⟨rfl, hh⟩ := hh
    obtain ⟨a, r, rfl, hh⟩ := am_str_s hh
    obtain ⟨q, hq, h1, hh⟩ := am_so_s hh
    exact am_r_len hx hb hY hX hS hq h1 hd (hk _ _ _ _ _ _ _ _ _ hh hX hS hl hc hu)
  | new i =>
    obtain ⟨rfl, hh⟩ := hh
    split at hh
    · rename_i ci z1 z2 hpl
      obtain ⟨hg, hcn, hun, hlt, hh⟩ := hh
      obtain ⟨w1, w2, w3, w4⟩ := wf3 _ _ _ _ _ hpl
      exact am_r_new hx hb hts hown hY w1 hX hS w2 w3 w4 hg hcn hun hd (fun H1 hX1 hS1 => hk _ _ _ _ _ _ H1 locs ls hh hX1 hS1 hl hcn hun)
    · rename_i x ic z1 hpl
      obtain ⟨hs0, hcn, hun, hw8, hd3, hd4, hd7, rfl, rfl⟩ := hh
      obtain ⟨hx4, w1, w2, w3, w4⟩ := wx5 _ _ _ _ _ hpl
      exact am_thr_new htr hx hb hml hown (fun U hU hW => ⟨wgood _ w1 _ _ _ _ hW (hts _ w1), wgood _ w2 _ _ _ _ hW (hts _ w2), fun w hw => by
        rcases w4 w hw with h9 | h9
        · exact wgood _ h9 _ _ _ _ hW (hts _ h9)
        · exact hZ2 U (hZm s U hZ hW.alike (fun q g1 g2 => by rw [hU]; exact hS.2.1 q g1 g2)) args w h9⟩) w3 hd hd3 hd4 hd7 (by rw [htab, hs0]) hlk hcn hun (hlv x rfl) (by show am_w8 st + 81 ≤ 40 * (d + 1); have := hlv x rfl; omega) hl.1 hX hS
    · exact hh.elim
  | newarray ty =>
    obtain ⟨rfl, hh⟩ := hh
    obtain ⟨n, r, rfl, hh⟩ := am_sti_s hh
    cases ty with
    | int =>
      obtain ⟨h1, h2, hg, hcn, hun, hh⟩ := hh
      exact am_r_newa hx hb hts hY hX hS (Or.inl ⟨rfl, rfl⟩) war.1 h1 h2 hg hcn hun hd (fun H1 hX1 hS1 => hk _ _ _ _ _ _ H1 locs ls hh hX1 hS1 hl hcn hun)
    | boolean =>
      obtain ⟨h1, h2, hg, hcn, hun, hh⟩ := hh
      exact am_r_newa hx hb hts hY hX hS (Or.inr (Or.inl ⟨rfl, rfl⟩)) war.2.1 h1 h2 hg hcn hun hd (fun H1 hX1 hS1 => hk _ _ _ _ _ _ H1 locs ls hh hX1 hS1 hl hcn hun)
    | long =>
      obtain ⟨h1, h2, hg, hcn, hun, hh⟩ := hh
      exact am_r_newa hx hb hts hY hX hS (Or.inr (Or.inr ⟨rfl, rfl⟩)) war.2.2 h1 h2 hg hcn hun hd (fun H1 hX1 hS1 => hk _ _ _ _ _ _ H1 locs ls hh hX1 hS1 hl hcn hun)
    | _ => exact hh.elim
  | anewarray i =>
    obtain ⟨rfl, hh⟩ := hh
    obtain ⟨n, r, rfl, hh⟩ := am_sti_s hh
    split at hh
    · rename_i z1 t z2 hpl
      obtain ⟨ht, h1, h2, hg, hcn, hun, hh⟩ := hh
      obtain ⟨w1, w2⟩ := wf4 _ _ _ _ _ hpl ht
      exact am_r_anew hx hb hts hown hY hX hS ht w1 w2 h1 h2 hg hcn hun hd (fun H1 hX1 hS1 => hk _ _ _ _ _ _ H1 locs ls hh hX1 hS1 hl hcn hun)
    · exact hh.elim
  | invokestatic i =>
    obtain ⟨rfl, hh⟩ := hh
    split at hh
    · rename_i j z1 hpl
      obtain ⟨hnp, hh⟩ := hh
      obtain ⟨hok, w1, w2⟩ := ws1 _ _ _ _ hpl
      obtain ⟨mk, methM, cM, hn, hm, -, -, hsig⟩ := am_named (hts _ hok.2.2.2.2.2.2)
      have hgo := am_goS (p := p) (l := l) (e := e) (R := am_rm (d + 1) M) (below := below) (meth := meth) (H := H) (locs := locs) (cells := cn) (slots := un) hx hown (hts _ w1) (hts _ w2) (hts _ hok.2.2.2.2.2.1) hok.2.2.1 hn hm (g := F0 m pc ls (st.map (am_tv b0 b))) rfl ((am_len9 (am_tv b0 b) hnp).trans (am_np9 hok hsig).symm) (am_split (am_tv b0 b) st _) (by rw [hb]; exact hd)
      exact am_snd_inv hZ3 hWF hZm hMj hC hF hY hZ hk hok hh hn hd hgo hX hS hl
    · rename_i j z1 hpl
      obtain ⟨hnp, hh⟩ := hh
      obtain ⟨hok, w1, w2⟩ := ws4 _ _ _ _ hpl
      obtain ⟨mk, methM, cM, hn, hm, -, -, hsig⟩ := am_named (hts _ hok.2.2.2.2.2.2)
      have hgo := am_goSN (p := p) (l := l) (e := e) (R := am_rm (d + 1) M) (below := below) (meth := meth) (H := H) (locs := locs) (cells := cn) (slots := un) hx hown (hts _ w1) (hts _ w2) (hts _ hok.2.2.2.2.2.1) hok.2.2.1 hn hm (g := F0 m pc ls (st.map (am_tv b0 b))) rfl ((am_len9 (am_tv b0 b) hnp).trans (am_np9 hok hsig).symm) (am_split (am_tv b0 b) st _) (by rw [hb]; exact hd)
      exact am_snd_inv hZ3 hWF hZm hMj hC hF hY hZ hk hok hh hn hd hgo hX hS hl
    · rename_i z1 z2 z3 hpl
      obtain ⟨w1, w2, w3, w4⟩ := wc8 _ _ _ _ _ hpl
      exact am_r_cpy hx hb (by rw [hml]; exact hl.1.symm) hts hown hY hX hS w1 w2 w3 w4 (by show 1 ≤ d + 1; omega) (by show 8 + (nativeFrameWords "java/lang/System" "arraycopy" 5 + 11) ≤ 40 * (d + 1); have h99 : nativeFrameWords "java/lang/System" "arraycopy" 5 ≤ 21 := (by decide); omega) hh hd (fun h' r H1 locs1 hv hX1 hS1 => hk _ _ _ _ _ _ H1 locs1 ls hv hX1 hS1 hl hc hu)
    · rename_i z1 z2 z3 hpl
      obtain ⟨w1, w2, w3, w4⟩ := wm10 _ _ _ _ _ hpl
      obtain ⟨y, r1, rfl, hh2⟩ := am_sti_s hh
      obtain ⟨x, r, rfl, h8, hh3⟩ := am_sti_s hh2
      exact va_mmin hx hb (by rw [hml]; exact hl.1.symm) hown (hts _ w1) (hts _ w2) (hts _ w3) (hts _ w4) (by show 1 ≤ d + 1; omega) (by rw [am_w8_map]; show am_w8 r + 13 ≤ 40 * (d + 1); omega) hc hu hd (hk _ _ _ _ _ _ _ _ _ hh3 hX hS hl hc hu)
    · rename_i z1 z2 z3 hpl
      obtain ⟨w1, w2, w3, w4⟩ := wm11 _ _ _ _ _ hpl
      obtain ⟨y, r1, rfl, hh2⟩ := am_sti_s hh
      obtain ⟨x, r, rfl, h8, hh3⟩ := am_sti_s hh2
      exact va_mmax hx hb (by rw [hml]; exact hl.1.symm) hown (hts _ w1) (hts _ w2) (hts _ w3) (hts _ w4) (by show 1 ≤ d + 1; omega) (by rw [am_w8_map]; show am_w8 r + 13 ≤ 40 * (d + 1); omega) hc hu hd (hk _ _ _ _ _ _ _ _ _ hh3 hX hS hl hc hu)
    · exact hh.elim
  | invokevirtual i =>
    obtain ⟨rfl, hh⟩ := hh
    split at hh
    · rename_i j z1 hpl
      obtain ⟨hnp, hh⟩ := hh
      obtain ⟨hok, -, ⟨T9, w0⟩, wlt, w1, w2, w3⟩ := wv0 _ _ _ _ hpl
      obtain ⟨bb, r, hdr, hs, hh⟩ := am_str_s hh
      obtain ⟨mk, methM, cM, hn, hm, -, -, hsig⟩ := am_named (hts _ hok.2.2.2.2.2.2)
      obtain ⟨cellB, k1, k2, k3⟩ := am_recv9 hY hX w0 wlt hs
      have hst := am_split (am_tv b0 b) st (am_np (am_mt G j))
      rw [hdr] at hst
      have hgo := am_goV (p := p) (l := l) (e := e) (R := am_rm (d + 1) M) (below := below) (meth := meth) (H := H) (locs := locs) (cells := cn) (slots := un) hx hown (hts _ w1) (hts _ w2) (hts _ w3) hok.2.2.1 hn hm k1 k2 (by rw [hok.2.1]; exact k3) (g := F0 m pc ls (st.map (am_tv b0 b))) rfl ((am_len9 (am_tv b0 b) hnp).trans (am_np9 hok hsig).symm) (rest := r.map (am_tv b0 b)) hst (by rw [hb]; exact hd)
      exact am_snd_inv hZ3 hWF hZm hMj hC hF hY hZ hk hok hh hn hd hgo hX hS hl
    · rename_i j z1 hpl
      obtain ⟨hnp, hh⟩ := hh
      obtain ⟨hok, -, ⟨T9, w0⟩, wlt, w1, w2, w3⟩ := wv3 _ _ _ _ hpl
      obtain ⟨bb, r, hdr, hs, hh⟩ := am_str_s hh
      obtain ⟨mk, methM, cM, hn, hm, -, -, hsig⟩ := am_named (hts _ hok.2.2.2.2.2.2)
      obtain ⟨cellB, k1, k2, k3⟩ := am_recv9 hY hX w0 wlt hs
      have hst := am_split (am_tv b0 b) st (am_np (am_mt G j))
      rw [hdr] at hst
      have hgo := am_goVN (p := p) (l := l) (e := e) (R := am_rm (d + 1) M) (below := below) (meth := meth) (H := H) (locs := locs) (cells := cn) (slots := un) hx hown (hts _ w1) (hts _ w2) (hts _ w3) hok.2.2.1 hn hm k1 k2 (by rw [hok.2.1]; exact k3) (g := F0 m pc ls (st.map (am_tv b0 b))) rfl ((am_len9 (am_tv b0 b) hnp).trans (am_np9 hok hsig).symm) (rest := r.map (am_tv b0 b)) hst (by rw [hb]; exact hd)
      exact am_snd_inv hZ3 hWF hZm hMj hC hF hY hZ hk hok hh hn hd hgo hX hS hl
    · exact hh.elim
  | invokespecial i =>
    obtain ⟨rfl, hh⟩ := hh
    split at hh
    · rename_i j z1 hpl
      obtain ⟨hnp, hh⟩ := hh
      obtain ⟨hok, whs, wrt, wnm, w1, w2⟩ := wi2 _ _ _ _ hpl
      obtain ⟨bb, r, hdr, hh⟩ := am_str_s hh
      obtain ⟨mk, methM, cM, hn, hm, -, -, hsig⟩ := am_named (hts _ hok.2.2.2.2.2.2)
      have hst := am_split (am_tv b0 b) st (am_np (am_mt G j))
      rw [hdr] at hst
      have hcode : (Cond.code (am_y (am_mt G j)) (am_b (am_mt G j)) (am_mL (am_mt G j)) none).before args s = true := by
        have := hts _ hok.2.2.2.2.2.2
        unfold am_cw at this
        rw [whs, wrt] at this
        exact this
      have hgo := am_goI (p := p) (l := l) (e := e) (R := am_rm (d + 1) M) (below := below) (meth := meth) (H := H) (locs := locs) (cells := cn) (slots := un) hx hown wnm (hts _ w1) (hts _ w2) hcode hok.2.2.1 hn (b := am_ad b0 b bb) (g := F0 m pc ls (st.map (am_tv b0 b))) rfl (argsL := ((st.take (am_np (am_mt G j))).reverse.map (am_tv b0 b))) (rest := r.map (am_tv b0 b)) (fun sig h9 => (am_len9 (am_tv b0 b) hnp).trans (am_np9 hok h9).symm) hst (by rw [hb]; exact hd)
      exact am_snd_inv hZ3 hWF hZm hMj hC hF hY hZ hk hok hh hn hd hgo hX hS hl
    · rename_i z1 z2 z3 hpl
      obtain ⟨w1, w2, w3⟩ := wo7 _ _ _ _ _ hpl
      obtain ⟨a, r, rfl, h8, hh⟩ := am_str_s hh
      exact W.objInit hx hb hown (hts _ w1) (hts _ w2) (hts _ w3) rfl (by rw [hml]; exact hl.1) rfl hd (by show 1 ≤ d + 1; omega) (by show 2 * 0 + _ + 12 ≤ 40 * (d + 1); rw [am_w8_map]; omega) (hk _ _ _ _ _ _ _ _ _ hh hX hS hl hc hu)
    · exact hh.elim
  | ireturn =>
    obtain ⟨rfl, hh⟩ := hh
    split at hh
    · rename_i x
      split at hh
      · rename_i hrt
        obtain ⟨rfl, rfl⟩ := hh
        refine W.widen hc hu (am_mono (fun t => am_MQ_of) (W.zret hx hb (hr.trans hrt) rfl (fun t ht hW => ⟨rfl, by rw [ht]; exact hX, hS.F ht⟩) hS.2.2 hd hlk))
      · rename_i hrt
        obtain ⟨h01, rfl, rfl⟩ := hh
        refine W.widen hc hu (am_mono (fun t => am_MQ_of) (W.zret hx hb (hr.trans hrt) (by rcases h01 with h01 | h01 <;> rw [h01] <;> rfl) (fun t ht hW => ⟨rfl, by rw [ht]; exact hX, hS.F ht⟩) hS.2.2 hd hlk))
      · exact hh.elim
    · exact hh.elim
  | areturn =>
    obtain ⟨rfl, hh⟩ := hh
    split at hh
    · rename_i a
      split at hh
      · rename_i nm hrt
        obtain ⟨rfl, rfl⟩ := hh
        refine W.widen hc hu (am_mono (fun t => am_MQ_of) (W.aret hx hb (hr.trans hrt) (Or.inl ⟨_, rfl⟩) (Or.inr ⟨_, rfl⟩) (fun t ht hW => ⟨rfl, by rw [ht]; exact hX, hS.F ht⟩) hS.2.2 hd hlk))
      · exact hh.elim
    · exact hh.elim
  | return_ =>
    obtain ⟨rfl, hh⟩ := hh
    split at hh
    · obtain ⟨hrt, rfl, rfl⟩ := hh
      refine W.widen hc hu (am_mono (fun t => am_MQ_of) (W.vret hx hb (hr.trans hrt) (fun t ht hW => ⟨rfl, by rw [ht]; exact hX, hS.F ht⟩) hS.2.2 hd hlk))
    · exact hh.elim
  | _ =>
    rw [am_do_d rfl] at hh
    exact am_snd_dflt hF hk hd hh hX hS hl hc hu
end AMS2
