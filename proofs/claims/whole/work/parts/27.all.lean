/-! Part 27: every method meets what the machine says of it -/
theorem am_sl_len : ∀ vs : List Value, (lg_sl vs).length = am_w8 vs
  | [] => rfl
  | v :: vs => by
    have h := am_sl_len vs
    have e1 : lg_sl (v :: vs) = (if v.category = 2 then [Slot.val v, Slot.second] else [Slot.val v]) ++ lg_sl vs := rfl
    have e2 : am_w8 (v :: vs) = v.category + am_w8 vs := by simp [am_w8]
    rw [e1, e2, List.length_append, h]
    cases v <;> rfl
section AMA
variable {l : Launch} {G : am_G} {cl : List vw_C} {own xn : Nat → String} {host : String} {WS : List Cond} {D : va_G} {cA : Nat → ClassId} {b0 b L : Nat} {xs : Nat → Int32} {Z : State → Prop}
theorem am_snd (hZ3 : ∀ s : State, Z s → ∀ x y, x < 4 → y < 4 → x ≠ y → va_Nc (xn x) (xn y) s) {p : Program} {e : Env} {s : State} {m : MethodId} {args : Array Value} {below : List Frame} {meth : Method} {c : Code} {M : am_M} {d : Nat} {C : Nat → List Value → am_H → am_O → am_H → Prop} {oM : am_O} {hM : am_H} (hWF : am_WF G cl own xn host WS) (hZm : ∀ (s U : State), Z s → s.vm.Alike U.vm → (∀ q : Nat, q < s.heap.size → ¬ b ≤ q → U.heap[q]? = s.heap[q]?) → Z U)
    (hlv : ∀ x, oM = .inr x → 5 < d + 1) (hMj : ∃ jM, M = am_mt G jM) (htr : l.stackTraces = false) (hZ2 : ∀ s : State, Z s → ∀ a9 : Array Value, ∀ w ∈ am_zw, w.before a9 s = true) (hC : am_HC C l G cl own xn WS D cA b0 b L d xs Z) (hF : am_F own WS M p m args meth c s) (hY : am_Y G cl own D cA b0 b L xs s) (hZ : Z s) :
    am_K (am_T C G M (fun o1 h1 => o1 = oM ∧ h1 = hM)) G cl D cA b0 b L xs M p l e (am_rm (d + 1) M) s m args below meth c (am_MQ below (am_Qc G cl xn D cA b0 b L xs oM hM) args s (am_mc M) (am_ms M) (fun q => b ≤ q)) := by
  intro pc al st h cn un H locs ls hh
  revert H locs ls
  refine hh (fun pc al st h cn un => ∀ (H : Heap) (locs : List Loc) (ls : Array Slot), am_X G cl D cA b0 b L xs h H → va_S (fun q => b ≤ q) s.heap H locs → lv_has ls (am_mL M) (am_tl b0 b al) → cn ≤ am_mc M → un ≤ am_ms M →
    W p l e (am_rm (d + 1) M) s m args below meth c H locs cn un (am_MQ below (am_Qc G cl xn D cA b0 b L xs oM hM) args s (am_mc M) (am_ms M) (fun q => b ≤ q)) (F0 m pc ls (st.map (am_tv b0 b)))) ?_
  intro pc al st h cn un hh H locs ls hX hS hl hc hu
  unfold am_step at hh
  split at hh
  · rename_i q hd
    exact am_snd_do hZ3 hlv htr hZ2 hWF hZm hMj hC hF hY hZ (fun pc al st h cn un H locs ls hh => hh H locs ls) (ins := q.1) (len := q.2) hd hh hX hS hl hc hu
  · exact hh.elim
theorem am_all (hZ3 : ∀ s : State, Z s → ∀ x y, x < 4 → y < 4 → x ≠ y → va_Nc (xn x) (xn y) s) (htr : l.stackTraces = false) (hZ2 : ∀ s : State, Z s → ∀ a9 : Array Value, ∀ w ∈ am_zw, w.before a9 s = true) (hWF : am_WF G cl own xn host WS) (hZm : ∀ (s U : State), Z s → s.vm.Alike U.vm → (∀ q : Nat, q < s.heap.size → ¬ b ≤ q → U.heap[q]? = s.heap[q]?) → Z U) : ∀ d, am_HC (am_C G d) l G cl own xn WS D cA b0 b L d xs Z := by
  intro d
  induction d with
  | zero => exact fun _ _ _ _ _ hh => hh.elim
  | succ d ih =>
    intro j as h o h' hCj hok
    obtain ⟨hw8, hlv, hwp⟩ := hCj
    have body : ∀ p e s m args below meth c s₁, BodyLoose p l (am_y (am_mt G j)) (headSpec (am_cw (am_mt G j) :: WS) (am_rm (d + 1) (am_mt G j))) (am_b (am_mt G j)) (am_mL (am_mt G j)) (am_rt (am_mt G j)) e s m args below meth c s₁ → c.maxLocals = am_mL (am_mt G j) → am_Pc G cl own D cA b0 b L xs Z as h args s →
        W p l e (headSpec (am_cw (am_mt G j) :: WS) (am_rm (d + 1) (am_mt G j))).room s m args below meth c s.heap [] 0 0 (am_MQ below (am_Qc G cl xn D cA b0 b L xs o h') args s (am_mc (am_mt G j)) (am_ms (am_mt G j)) (fun q => b ≤ q)) (entryFrame m args (am_mL (am_mt G j))) := by
      intro p e s m args below meth c s₁ B hml hP
      obtain ⟨rfl, hX, hY, hZ⟩ := hP
      have hts := atoms_spec (ws := am_cw (am_mt G j) :: WS) B.pre
      have hF : am_F own WS (am_mt G j) p m (as.map (am_tv b0 b)).toArray meth c s := ⟨B.exec, B.bytes, hml, by rw [← hok.2.1]; exact findClass_of_methodNamed B.named, fun w hw => hts w (List.mem_cons_of_mem _ hw), B.returns, B.notSynchronized, (name_of_methodNamed B.named B.method).1, am_tab (hts _ List.mem_cons_self) B.named B.method (Stand.of_body B).code⟩
      have hl := lv_entry (as.map (am_tv b0 b)) (n := am_mL (am_mt G j)) (by rw [am_sl_len]; show ((as.map (am_tv b0 b)).map fun v => v.category).sum ≤ _; rw [am_w8_map]; exact hw8)
      rw [am_args_map] at hl
      rw [lg_entry_eq]
      exact am_snd hZ3 hWF hZm hlv ⟨j, rfl⟩ htr hZ2 ih hF hY hZ 0 (lv_args 0 as) [] h 0 0 s.heap [] _ hwp hX va_S.rf hl (Nat.zero_le _) (Nat.zero_le _)
    cases hs : am_hs (am_mt G j) with
    | nil => exact am_ofW hok.1 (by unfold am_cw; rw [hs]) body
    | cons q r => exact am_ofWh (hh := q :: r) hok.1 (by unfold am_cw; rw [hs]) body
end AMA
