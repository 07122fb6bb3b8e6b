/-! Part 40: the claim out of what the machine of part 10 does at the law -/
def zw_S (b : Nat) (name desc : String) (U : State) : Prop := ∃ (c : Nat) (k : Class) (i : Nat) (f : Field) (a : Nat) (cell : Cell) (v : Value),
  U.vm.findClass Bundle.tN = some c ∧ U.fieldFound? Bundle.tN name desc = some (c, k, i, f) ∧ f.isStatic = true ∧ k.statics = some a ∧ a < b ∧ U.heap[a]? = some cell ∧ cell.vm.isStatics = true ∧ cell.cls = c ∧ f.slot < cell.slots.size ∧ k.staticTypes[f.slot]? = some f.type ∧ cell.slots[f.slot]? = some v ∧ v.isRef = true
theorem zw_of {args : Array Value} {s : State} {name desc : String} (h1 : (Cond.laysStatic Bundle.tN name desc).before args s = true) (h2 : (Cond.isRef (.static Bundle.tN name desc)).before args s = true) : zw_S s.heap.size name desc s := by
  obtain ⟨c, k, i, f, a, cell, hc, hi, hst, ha, hcell, hs, hcls, hlt, hty⟩ := Cond.laysStatic_spec h1
  obtain ⟨u, hu⟩ := Cond.staticRefV hi hst ha hcell hs h2
  exact ⟨c, k, i, f, a, cell, u.v, hc, hi, hst, ha, (Array.getElem?_eq_some_iff.mp hcell).1, hcell, hs, hcls, hlt, hty, hu, u.ok⟩
theorem zw_mv {b : Nat} {name desc : String} {s U : State} (h : zw_S b name desc s) (hal : s.vm.Alike U.vm) (hk : ∀ q : Nat, q < s.heap.size → ¬ b ≤ q → U.heap[q]? = s.heap[q]?) : zw_S b name desc U := by
  obtain ⟨c, k, i, f, a, cell, v, hc, hi, hst, ha, hab, hcell, hs, hcls, hlt, hty, hv, hr⟩ := h
  obtain ⟨k', hi', hek⟩ := State.fieldFound?_setVm hal hi
  exact ⟨c, k', i, f, a, cell, v, by rw [hal.findClass]; exact hc, hi', hst, by rw [hek]; exact ha, hab, by rw [hk a (Array.getElem?_eq_some_iff.mp hcell).1 (by omega)]; exact hcell, hs, hcls, hlt, by rw [hek]; exact hty, hv, hr⟩
theorem zw_lays {b : Nat} {name desc : String} {s : State} {a9 : Array Value} (h : zw_S b name desc s) : (Cond.laysStatic Bundle.tN name desc).before a9 s = true := by
  obtain ⟨c, k, i, f, a, cell, v, hc, hi, hst, ha, hab, hcell, hs, hcls, hlt, hty, hv, hr⟩ := h
  exact Cond.laysStatic_of hc hi hst ha hcell hs hcls hlt hty
theorem zw_ref {b : Nat} {name desc : String} {s : State} {a9 : Array Value} (h : zw_S b name desc s) : (Cond.isRef (.static Bundle.tN name desc)).before a9 s = true := by
  obtain ⟨c, k, i, f, a, cell, v, hc, hi, hst, ha, hab, hcell, hs, hcls, hlt, hty, hv, hr⟩ := h
  have he : (Term.static Bundle.tN name desc).eval a9 s none [] s = some v := by
    simp [Term.eval, State.fieldNamed?, hi, hst, ha, hcell, hs, hv]
  simp only [Cond.before, Cond.holds, Cond.value]
  rw [he]
  cases v <;> simp [Value.isRef] at hr <;> rfl
/-- what stays true of the state: two statics of Throwable, the exceptions' classes apart -/
def zw_Z (b : Nat) (U : State) : Prop := zw_S b "UNASSIGNED_STACK" Bundle.steD U ∧ zw_S b "SUPPRESSED_SENTINEL" Bundle.listD U ∧ ∀ x y, x < 4 → y < 4 → x ≠ y → va_Nc (tb_xn x) (tb_xn y) U
theorem zw_Zm {b : Nat} (s U : State) (h : zw_Z b s) (hal : s.vm.Alike U.vm) (hk : ∀ q : Nat, q < s.heap.size → ¬ b ≤ q → U.heap[q]? = s.heap[q]?) : zw_Z b U :=
  ⟨zw_mv h.1 hal hk, zw_mv h.2.1 hal hk, fun x y hx hy hxy => (h.2.2 x y hx hy hxy).moved hal⟩
theorem zw_Z2 {b : Nat} (s : State) (h : zw_Z b s) (a9 : Array Value) : ∀ w ∈ am_zw, w.before a9 s = true := by
  intro w hw
  unfold am_zw at hw
  simp only [List.mem_cons, List.not_mem_nil, or_false] at hw
  rcases hw with rfl | rfl | rfl | rfl
  · exact zw_ref h.1
  · exact zw_ref h.2.1
  · exact zw_lays h.1
  · exact zw_lays h.2.1
/-- the exceptions' classes apart, out of the Statement's own words -/
theorem zw_nc {args : Array Value} {s : State} (h : ∀ w ∈ flatC (Jvm.Cond.and given_1 narrow_1), w.before args s = true) : ∀ x y, x < 4 → y < 4 → x ≠ y → va_Nc (tb_xn x) (tb_xn y) s := by
  intro x y hx hy hxy
  match x, y, hx, hy, hxy with
  | 0, 1, _, _, _ => exact va_Nc.of (h _ (by decide +kernel))
  | 0, 2, _, _, _ => exact va_Nc.of (h _ (by decide +kernel))
  | 0, 3, _, _, _ => exact va_Nc.of (h _ (by decide +kernel))
  | 1, 0, _, _, _ => exact va_Nc.of (h _ (by decide +kernel))
  | 1, 2, _, _, _ => exact va_Nc.of (h _ (by decide +kernel))
  | 1, 3, _, _, _ => exact va_Nc.of (h _ (by decide +kernel))
  | 2, 0, _, _, _ => exact va_Nc.of (h _ (by decide +kernel))
  | 2, 1, _, _, _ => exact va_Nc.of (h _ (by decide +kernel))
  | 2, 3, _, _, _ => exact va_Nc.of (h _ (by decide +kernel))
  | 3, 0, _, _, _ => exact va_Nc.of (h _ (by decide +kernel))
  | 3, 1, _, _, _ => exact va_Nc.of (h _ (by decide +kernel))
  | 3, 2, _, _, _ => exact va_Nc.of (h _ (by decide +kernel))
  | n + 4, _, h, _, _ => exact absurd h (by omega)
  | _, n + 4, _, h, _ => exact absurd h (by omega)
  | 0, 0, _, _, h => exact absurd rfl h
  | 1, 1, _, _, h => exact absurd rfl h
  | 2, 2, _, _, h => exact absurd rfl h
  | 3, 3, _, _, h => exact absurd rfl h
/-- the heap as the law finds it: the script alone -/
def am_h0 (L : Nat) (xs : Nat → Int32) : am_H := ((am_u1 (fun _ => none) 0 (some (150, L)), fun _ _ => none, 0), 0, am_u1 (fun _ _ => 0) 0 xs, fun _ _ => 0)
/-- what is left to show: at every script the law's own code, run by the machine of part 10, ends with 1 -/
def am_goal : Prop := ∀ (L : Nat) (xs : Nat → Int32), L ≤ 3075 → am_T (am_C tb_G 12) tb_G mt_La_law (fun o _ => o = .inl (some (.int 1))) 0 [(0, .ref 0)] [] (am_h0 L xs) 0 0
def lw_P (b : Addr) (xs : List Int32) (args : Array Value) (s : State) : Prop := args = #[.ref b] ∧ s.IntsAt b xs ∧ xs.length ≤ 3075 ∧ (Jvm.Cond.and given_1 narrow_1).before args s = true
def lw_Q (_ : Array Value) (s : State) (o : Outcome) (t : State) : Prop := o = .returned (some (.int 1)) ∧ Framed s o t [] 601024 7293000
def lw_Z (below : List Frame) (a : Array Value) (s : State) : State → Prop := fun t => ∃ o, t.status = .running ∧ Ended t below o ∧ lw_Q a s o t
/-- an array class of a primitive type -/
theorem zw_arr {args : Array Value} {s : State} {t : FieldType} (h : (Cond.arrayClass t).before args s = true) (ht : ∀ C, t ≠ .object C) : ∃ cA, ArrOfT s cA t ∧ va_RA s cA t := by
  obtain ⟨cA, kA, comp, h1, h2, h3⟩ := Cond.arrayClass_spec h
  refine ⟨cA, fun N z => ⟨(fun k h => by cases h), kA, h2, comp, h3⟩, ?_⟩
  cases t with
  | object C => exact absurd rfl (ht C)
  | _ => exact h1
theorem zw_arrO {args : Array Value} {s : State} {C : String} (h : (Cond.arrayOver (.object C)).before args s = true) : ∃ cA, ArrOfT s cA (.object C) ∧ va_RA s cA (.object C) := by
  obtain ⟨comp, cA, kA, f4, -, f2, f3, f1⟩ := Cond.arrayOver_spec h
  exact ⟨cA, fun N z => ⟨(fun k h => by cases h), kA, f2, comp, f3⟩, kA, comp, f2, f3, f4, f1⟩
theorem zw_inst {c : Nat} (h : c < 12) : Cond.instantiable (tb_own c) (tb_nf c) ∈ tb_ws := match c, h with
  | 0, _ => tb_mem (p := 2017) (by decide +kernel)
  | 1, _ => tb_mem (p := 1032) (by decide +kernel)
  | 2, _ => tb_mem (p := 1178) (by decide +kernel)
  | 3, _ => tb_mem (p := 1081) (by decide +kernel)
  | 4, _ => tb_mem (p := 1120) (by decide +kernel)
  | 5, _ => tb_mem (p := 1184) (by decide +kernel)
  | 6, _ => tb_mem (p := 1087) (by decide +kernel)
  | 7, _ => tb_mem (p := 1094) (by decide +kernel)
  | 8, _ => tb_mem (p := 2010) (by decide +kernel)
  | 9, _ => tb_mem (p := 1071) (by decide +kernel)
  | 10, _ => tb_mem (p := 1024) (by decide +kernel)
  | 11, _ => tb_mem (p := 4196) (by decide +kernel)
  | n + 12, h => absurd h (by omega)
theorem zw_in1 : Cond.laysStatic Bundle.tN "UNASSIGNED_STACK" Bundle.steD ∈ lw_tbl := tb_seg_in (k := 2) (List.mem_of_getElem? (i := 167) (by decide +kernel))
theorem zw_in2 : Cond.laysStatic Bundle.tN "SUPPRESSED_SENTINEL" Bundle.listD ∈ lw_tbl := tb_seg_in (k := 2) (List.mem_of_getElem? (i := 169) (by decide +kernel))
theorem zw_cls {args : Array Value} {s : State} (hts : ∀ w ∈ tb_ws, w.before args s = true) : ∃ D : va_G, ∀ (c : Nat) (q : vw_C), tb_cl[c]? = some q → u_Kn s q.1 q.2.1 q.2.2 (D.1 c) (D.2 c) := by
  have one : ∀ c, c < 12 → ∃ (cC : ClassId) (iS : Nat → Nat), ∀ q : vw_C, tb_cl[c]? = some q → u_Kn s q.1 q.2.1 q.2.2 cC iS := by
    intro c hc
    obtain ⟨T, ty, h1, -, h3, -⟩ := tb_aok hc
    have hi : Cond.instantiable (tb_own c) (tb_nf c) ∈ tb_ws := zw_inst hc
    obtain ⟨cC, iS, hk⟩ := u_known hts h3 (hts _ hi)
    refine ⟨cC, iS, fun q hq => ?_⟩
    rw [h1] at hq
    cases hq
    exact hk
  have all : ∀ c : Nat, ∃ (cC : ClassId) (iS : Nat → Nat), ∀ q : vw_C, tb_cl[c]? = some q → u_Kn s q.1 q.2.1 q.2.2 cC iS := by
    intro c
    by_cases hc : c < 12
    · exact one c hc
    · refine ⟨0, fun _ => 0, fun q hq => ?_⟩
      have : tb_cl.length = 12 := rfl
      rw [List.getElem?_eq_none (by omega)] at hq
      cases hq
  exact ⟨(fun c => (all c).choose, fun c => (all c).choose_spec.choose), fun c q hq => (all c).choose_spec.choose_spec q hq⟩
set_option maxHeartbeats 1000000 in
theorem whole_start (hg : am_goal) {p : Program} {e : Env} {s : State} {m : MethodId} {below : List Frame} {meth : Method} {c : Code} (l : Launch) (htr : l.stackTraces = false) {b L : Nat} {xs : Nat → Int32} (hL : L ≤ 3075) (hx : p.tables.exec = Jvm.exec) (hb : c.code = code) (hr : meth.sig.returnType = ret) (hml : c.maxLocals = 7) (hown : s.vm.findClass "AttributeLinkLaw" = some m.cls)
    (hts : ∀ w ∈ lw_tbl, w.before #[Value.ref b] s = true) (hX : va_X b L xs s s.heap) (hbl : b < s.heap.size) (hlk : meth.locks = false) (hgv : (Jvm.Cond.and given_1 narrow_1).before #[Value.ref b] s = true) (hnm : meth.name = x.name) (hex : c.exceptionTable.toList.map (fun h => (h.startPc, h.endPc, h.handlerPc, h.catchType)) = []) :
    W p l e room_1 s m #[Value.ref b] below meth c s.heap [] 0 0 (lw_Z below #[Value.ref b] s) (entryFrame m ([Value.ref b] : List Value).toArray 7) := by
  obtain ⟨o, h', ho, hT⟩ := am_T_ex (hg L xs hL)
  subst ho
  have hws : ∀ w ∈ tb_ws, w.before #[Value.ref b] s = true := fun w hw => hts w (List.mem_filter.mp hw).1
  have hfl := flat_of_before _ hgv
  have hlz1 : (Cond.laysStatic Bundle.tN "UNASSIGNED_STACK" Bundle.steD).before #[Value.ref b] s = true := hts _ (zw_in1)
  have hlz2 : (Cond.laysStatic Bundle.tN "SUPPRESSED_SENTINEL" Bundle.listD).before #[Value.ref b] s = true := hts _ (zw_in2)
  have hZ : zw_Z s.heap.size s := ⟨zw_of hlz1 (hfl _ (by decide +kernel)), zw_of hlz2 (hfl _ (by decide +kernel)), zw_nc hfl⟩
  obtain ⟨D, hD⟩ := zw_cls hws
  obtain ⟨c0, k0⟩ := zw_arr (hws _ tb_s12) (fun C h => by cases h)
  obtain ⟨c1, k1⟩ := zw_arr (hws _ tb_s13) (fun C h => by cases h)
  obtain ⟨c2, k2⟩ := zw_arr (hws _ tb_s14) (fun C h => by cases h)
  obtain ⟨c3, k3⟩ := zw_arrO (hws _ tb_s10)
  obtain ⟨c4, k4⟩ := zw_arrO (hws _ tb_s11)
  let cA : Nat → ClassId := fun t => match t with | 100 => c0 | 101 => c1 | 102 => c2 | 103 => c3 | _ => c4
  have hK : va_K D tb_cl (am_tys tb_cl tb_G tb_own cA) s := ⟨hD, fun k q hq => by
    match k, hq with
    | 0, hq => cases hq; exact k0
    | 1, hq => cases hq; exact k1
    | 2, hq => cases hq; exact k2
    | 3, hq => cases hq; exact k3
    | 4, hq => cases hq; exact k4
    | n + 5, hq => cases hq⟩
  have hnone : ∀ (q : Nat) (ce : Cell), s.heap.size ≤ q → s.heap[q]? = some ce → ce.vm.isStatics = false := fun q ce hq hce => absurd (Array.getElem?_eq_some_iff.mp hce).1 (by omega)
  have hXX : am_X tb_G tb_cl D cA b s.heap.size L xs (am_h0 L xs) s.heap := by
    refine ⟨fun k q hq => ?_, rfl, fun a q hq => ?_, rfl, hnone⟩
    · cases hq
    · unfold am_h0 am_sh am_u1 at hq
      dsimp only at hq
      split at hq
      · rename_i ha
        subst ha
        cases hq
        exact ⟨Nat.le_refl _, fun _ => rfl⟩
      · cases hq
  have hY : am_Y tb_G tb_cl tb_own D cA b s.heap.size L xs s := ⟨hK, hbl, Nat.le_refl _, hX, hnone⟩
  have hF : am_F tb_own tb_ws mt_La_law p m #[Value.ref b] meth c s := ⟨hx, hb, hml, hown, hws, hr, hlk, hnm, hex⟩
  have hC := am_all (l := l) (D := D) (cA := cA) (b0 := b) (b := s.heap.size) (L := L) (xs := xs) (Z := zw_Z s.heap.size) (fun s hs => hs.2.2) htr zw_Z2 tb_WF zw_Zm 12
  have hsnd := am_snd (p := p) (e := e) (below := below) (M := mt_La_law) (d := 12) (oM := .inl (some (.int 1))) (hM := h') (fun s hs => hs.2.2) tb_WF zw_Zm (fun x hx => by cases hx) ⟨180, rfl⟩ htr zw_Z2 hC hF hY hZ
  have hl := lv_entry [Value.ref b] (n := 7) (by show 1 ≤ 7; omega)
  have hgo := hsnd 0 [(0, .ref 0)] [] (am_h0 L xs) 0 0 s.heap [] _ hT hXX va_S.rf hl (Nat.zero_le _) (Nat.zero_le _)
  rw [lg_entry_eq]
  refine am_mono (fun t ht => ?_) hgo
  obtain ⟨o, h1, h2, ⟨h3, -, -⟩, Ls, ⟨h4, h5⟩, h6⟩ := ht
  dsimp only at h3
  subst h3
  exact ⟨_, h1, h2, rfl, ⟨_, rfl⟩, h4, h5.weaken (fun y hy hlt => absurd hlt (Nat.not_lt.mpr (h6 y hy))) (Nat.le_refl _) (Nat.le_refl _)⟩
set_option maxHeartbeats 4000000 in
theorem lw_walk (hg : am_goal) (l : Launch) (htr : l.stackTraces = false) (b : Addr) (xs : List Int32) : MetFree l x (headSpec (Jvm.Cond.code x code maxLocals ret :: tables_1) room_1) (lw_P b xs) (fun _ _ _ _ _ => True) lw_Q := by
  refine MetFree.of_bodyS (code := code) (maxLocals := maxLocals) (ret := ret) (by decide) ?_ ?_
  · intro args s m h hn
    obtain ⟨meth, c, h1, h2, h3, h4, h5, h6, -, -⟩ := Cond.code_spec hn (atoms_spec (ws := Jvm.Cond.code x code maxLocals ret :: tables_1) h _ List.mem_cons_self)
    exact ⟨meth, c, h1, h2, h3, h4, h5, h6⟩
  · intro p e s m args below meth c s₁ B hml0 hP _
    obtain ⟨rfl, hx, hbd, hgv⟩ := hP
    obtain ⟨scr, harrAt, hlist, hof, hsmall⟩ := hx
    obtain ⟨hcb, hkn, -, -⟩ := State.arrayAt?_spec harrAt
    have hown : s.vm.findClass "AttributeLinkLaw" = some m.cls := findClass_of_methodNamed B.named
    have hts0 : ∀ c ∈ (Jvm.Cond.code x code maxLocals ret :: tables_1), c.before #[Value.ref b] s = true := atoms_spec (ws := Jvm.Cond.code x code maxLocals ret :: tables_1) B.pre
    have hts : ∀ w ∈ lw_tbl, w.before #[Value.ref b] s = true := k2_hts_sels lw_privs (fun w hw => hts0 w (List.mem_cons_of_mem _ hw)) lw_privs_ok
    have hml : c.maxLocals = 7 := B.maxLocals_eq (hts0 _ List.mem_cons_self)
    have X₀ : Stand p l e room_1 s m #[Value.ref b] below meth c s₁ [] 0 0 := Stand.of_body B
    have hh0 : s₁.heap = s.heap := by rw [B.state]; rfl
    have hsz : scr.slots.size = xs.length := by rw [← Array.length_toList, hlist, List.length_map]
    have hval : ∀ j : Nat, j < xs.length → scr.slots[j]? = some (.int (xs.getD j 0)) := fun j hj => by
      rw [← Array.getElem?_toList, hlist]
      simp [hj]
    have hbl : b < s.heap.size := (Array.getElem?_eq_some_iff.mp hcb).1
    have hX : va_X b xs.length (fun j => xs.getD j 0) s s.heap := ⟨scr, hcb, hof, hkn, hsz, hval⟩
    have htab : c.exceptionTable.toList.map (fun h => (h.startPc, h.endPc, h.handlerPc, h.catchType)) = [] := am_tab (M := mt_La_law) (hts0 _ List.mem_cons_self) B.named B.method (Stand.of_body B).code
    have K : W p l e room_1 s m #[Value.ref b] below meth c s₁.heap [] 0 0 (lw_Z below #[Value.ref b] s) (entryFrame m ([Value.ref b] : List Value).toArray 7) := by
      rw [hh0]
      exact whole_start hg l htr hbd B.exec B.bytes B.returns hml hown hts hX hbl B.notSynchronized hgv (name_of_methodNamed B.named B.method).1 htab
    obtain ⟨t, a1, o, b1, b2, b3⟩ := K s₁ rfl X₀
    exact ⟨t, o, a1, b1, b2, b3⟩
theorem lw_pre_spec {args : Array Value} {s : State} (h : (Jvm.Cond.and given_1 narrow_1).before args s = true) (hr : rest_1_c.before args s = true) : ∃ (b : Addr) (xs : List Int32), lw_P b xs args s := by
  have hs := flat_of_before _ h
  have hq := flat_of_before _ hr
  have hc : (Cond.count 1).before args s = true := hs _ (by decide +kernel)
  have harr : (Cond.arrayOf (.arg 0) .int).before args s = true := hs _ (by decide +kernel)
  have hle : (Cond.le (.length (.arg 0)) (.int 3075)).before args s = true := hs _ (by decide +kernel)
  have hlen : (Cond.isInt (.length (.arg 0))).before args s = true := hq _ (by decide +kernel)
  have hall : (Cond.all (.arg 0) (.isInt (.elem (.arg 0) (.index 0)))).before args s = true := hq _ (by decide +kernel)
  obtain ⟨b, xs, hb, hx⟩ := State.ints_of_pre rfl harr hlen hall
  have hsm : xs.length < 2 ^ 31 := hx.choose_spec.2.2.2
  have hev : (Term.length (.arg 0)).eval args s none [] s = some (.int xs.length.toInt32) := hx.length_eval hb
  have hv := Cond.le_ints hev (show (Term.int 3075).eval args s none [] s = some (.int 3075) from rfl)
  have hd : xs.length.toInt32 ≤ 3075 := by
    simpa [Cond.before, Cond.holds, hv] using hle
  have hN : xs.length ≤ 3075 := (Int32.ofNat_le_ofNat hsm (by decide)).mp (show Int32.ofNat xs.length ≤ Int32.ofNat 3075 from hd)
  exact ⟨b, xs, Cond.one_arg hc (show args[0]? = some (.ref b) from hb), hx, hN, h⟩
theorem lw_comes (hg : am_goal) (l : Launch) (htr : l.stackTraces = false) : Comes l x (Jvm.Cond.code x code maxLocals ret :: tables_1) room_1 (fun tb e args s => Calls_1 tb e args s ∧ rest_1 tb e args s ∧ Pre_1 tb e args s)
    (fun _ _ args s o t => lw_Q args s o t) := by
  intro p e ha hc hk s m args below hf hfit hheap happ hpre
  obtain ⟨b, xs, hP⟩ := lw_pre_spec hpre.2.2 hpre.2.1
  obtain ⟨k, o, h1, h2, h3, hQ⟩ := lw_walk hg l htr b xs p e ha hc hk s m args below hf ((Spec.applies_iff_loose hf).mp happ).1 hP trivial
  exact ⟨k, o, h1, h2, h3, hQ⟩
theorem lw_frame {s t : State} {o : Outcome} {args : Array Value} (h : Framed s o t [] 601024 7293000) :
    Framed s o t (fieldLocs frame_1_writes args s ++ arrayLocs frame_1_arrays args s ++ staticLocs frame_1_statics s) 601024 7293000 := h
theorem lw_limb (hg : am_goal) (L : Cond) (hL : ∀ (args : Array Value) (s t : State), L.after args s (.returned (some (.int 1))) t = true) :
    ArmFor flags0 classFile x code maxLocals ret World_1 tables_1 room_1 Calls_1 rest_1 Pre_1
      (fun tb e a s o t => postC L tb e a s o t ∧ Framed s o t (fieldLocs frame_1_writes a s ++ arrayLocs frame_1_arrays a s ++ staticLocs frame_1_statics s) 601024 7293000) := by
  intro l hfl _ _ p e ha hc hk s m args below hf hfit hheap happ hpre
  have htr : l.stackTraces = false := by
    unfold Launch.stackTraces
    rw [hfl]
    decide +kernel
  obtain ⟨k, o, h1, h2, h3, rfl, hF⟩ := lw_comes hg l htr p e ha hc hk s m args below hf hfit hheap happ hpre
  exact ⟨k, _, h1, h2, h3, hL args s _, lw_frame hF⟩
/-- all that is left is am_goal -/
theorem vc_of (hg : am_goal) : Claimed_1_1 ∧ Claimed_1_2 := ⟨lw_limb hg limb_1_1 (fun args s t => by simp [limb_1_1, Cond.after, Cond.holds, Cond.value]), lw_limb hg limb_1_2 (fun args s t => Cond.after_iff.mpr (by
  first | (rw [show limb_1_2 = Cond.eq .result (.int 1) from rfl, Cond.eq_ints (x := 1) (y := 1) rfl rfl]; simp; done) | (simp [limb_1_2, Cond.value, Term.eval]; done)))⟩
