/-! Part 25: the machine of part 10 is sound -/
def am_cw (M : am_M) : Cond := match am_hs M with
  | [] => .code (am_y M) (am_b M) (am_mL M) (am_rt M)
  | q :: r => .codeWith (am_y M) (am_b M) (am_mL M) (am_rt M) (q :: r)
def am_rm (d : Nat) (M : am_M) : Room := { frames := d, cells := am_mc M, slots := am_ms M, locals := 40 * d }
/-- a method of the program -/
def am_okm (G : am_G) (own : Nat → String) (WS : List Cond) (j : Nat) : Prop :=
  plainFor (am_y (am_mt G j)) = true ∧ (am_y (am_mt G j)).cls = own (am_o (am_mt G j)) ∧ ((am_y (am_mt G j)).cls ≠ "java/lang/invoke/MethodHandle" ∧ (am_y (am_mt G j)).cls ≠ "java/lang/invoke/VarHandle") ∧
  (parseMethodDescriptor (am_y (am_mt G j)).desc).map (fun d => d.parameters.length) = some (am_np (am_mt G j)) ∧ am_mL (am_mt G j) ≤ 21 ∧ Cond.initialized (am_y (am_mt G j)).cls ∈ WS ∧ am_cw (am_mt G j) ∈ WS
/-- a word that stays true while the tables get warmer -/
def am_gw (w : Cond) : Prop := ∀ (s U : State) (args a' : Array Value), s.WarmedH U.vm → w.before args s = true → w.before a' U = true
/-- words on statics of Throwable, which look at the heap too -/
def am_zw : List Cond := [.isRef (.static Bundle.tN "UNASSIGNED_STACK" Bundle.steD), .isRef (.static Bundle.tN "SUPPRESSED_SENTINEL" Bundle.listD), .laysStatic Bundle.tN "UNASSIGNED_STACK" Bundle.steD, .laysStatic Bundle.tN "SUPPRESSED_SENTINEL" Bundle.listD]
/-- the words hold what the machine takes for granted -/
def am_WF (G : am_G) (cl : List vw_C) (own : Nat → String) (xn : Nat → String) (host : String) (WS : List Cond) : Prop :=
  (∀ w ∈ WS, am_gw w) ∧
  (∀ o idx ci fi, am_pl G o idx = (1, ci, fi, 0) → am_ok G cl own WS ci) ∧
  (∀ o idx ci x y, am_pl G o idx = (3, ci, x, y) → am_ok G cl own WS ci ∧ Cond.classLink (own o) idx (own ci) ∈ WS ∧ Cond.instantiable (own ci) (am_nf G ci) ∈ WS ∧ Cond.initialized (own ci) ∈ WS) ∧
  (∀ o idx x t y, am_pl G o idx = (3, x, t, y) → (t = 103 ∨ t = 104) → Cond.classLink (own o) idx (own (am_ac G t)) ∈ WS ∧ Cond.arrayOver (.object (own (am_ac G t))) ∈ WS) ∧
  (∀ t, t = 103 ∨ t = 104 → am_ok G cl own WS (am_ac G t)) ∧
  (Cond.arrayClass (newarray.typeOf .int) ∈ WS ∧ Cond.arrayClass (newarray.typeOf .boolean) ∈ WS ∧ Cond.arrayClass (newarray.typeOf .long) ∈ WS) ∧
  (∀ o idx x, am_kc G o idx = some (.int x) → Jvm.Cond.constant (own o) idx x ∈ WS) ∧ (∀ o idx x, am_kc G o idx = some (.long x) → Jvm.Cond.constantLong (own o) idx x ∈ WS) ∧
  (∀ o idx j z, am_pl G o idx = (2, j, 0, z) → am_okm G own WS j ∧ am_hs (am_mt G j) = [] ∧ (∃ T, cl[am_o (am_mt G j)]? = some (own (am_o (am_mt G j)), T, am_nf G (am_o (am_mt G j)))) ∧ am_o (am_mt G j) < 100 ∧ Cond.methodLink (own o) idx (am_y (am_mt G j)) ∈ WS ∧ Cond.instanceMethod (am_y (am_mt G j)) ∈ WS ∧ Cond.selects (am_y (am_mt G j)).cls (am_y (am_mt G j)) (am_y (am_mt G j)) ∈ WS) ∧
  (∀ o idx j z, am_pl G o idx = (2, j, 3, z) → am_okm G own WS j ∧ am_hs (am_mt G j) = [] ∧ (∃ T, cl[am_o (am_mt G j)]? = some (own (am_o (am_mt G j)), T, am_nf G (am_o (am_mt G j)))) ∧ am_o (am_mt G j) < 100 ∧ Cond.methodLinkNest (own o) idx (am_y (am_mt G j)) host ∈ WS ∧ Cond.instanceMethod (am_y (am_mt G j)) ∈ WS ∧ Cond.selects (am_y (am_mt G j)).cls (am_y (am_mt G j)) (am_y (am_mt G j)) ∈ WS) ∧
  (∀ o idx j z, am_pl G o idx = (2, j, 1, z) → am_okm G own WS j ∧ Cond.methodLink (own o) idx (am_y (am_mt G j)) ∈ WS ∧ Cond.static (am_y (am_mt G j)) ∈ WS) ∧
  (∀ o idx j z, am_pl G o idx = (2, j, 4, z) → am_okm G own WS j ∧ Cond.methodLinkNest (own o) idx (am_y (am_mt G j)) host ∈ WS ∧ Cond.static (am_y (am_mt G j)) ∈ WS) ∧
  (∀ o idx j z, am_pl G o idx = (2, j, 2, z) → am_okm G own WS j ∧ am_hs (am_mt G j) = [] ∧ am_rt (am_mt G j) = none ∧ (am_y (am_mt G j)).name = "<init>" ∧ Cond.methodLink (own o) idx (am_y (am_mt G j)) ∈ WS ∧ Cond.instanceMethod (am_y (am_mt G j)) ∈ WS) ∧
  (∀ o idx x y z, am_pl G o idx = (7, x, y, z) → Cond.methodLink (own o) idx Lib.objectInit ∈ WS ∧ Cond.instanceMethod Lib.objectInit ∈ WS ∧ Cond.code Lib.objectInit ⟨#[0xb1]⟩ 1 none ∈ WS) ∧
  (∀ o idx x y z, am_pl G o idx = (8, x, y, z) → Cond.methodLink (own o) idx arraycopyName ∈ WS ∧ Cond.native arraycopyName ∈ WS ∧ Cond.static arraycopyName ∈ WS ∧ Cond.initialized "java/lang/System" ∈ WS) ∧
  (∀ o idx x y z, am_pl G o idx = (10, x, y, z) → Cond.methodLink (own o) idx Lib.Math.min.name ∈ WS ∧ Cond.static Lib.Math.min.name ∈ WS ∧ Cond.initialized "java/lang/Math" ∈ WS ∧ Cond.code Lib.Math.min.name Lib.Math.min.code 2 (some .int) ∈ WS) ∧
  (∀ o idx x y z, am_pl G o idx = (11, x, y, z) → Cond.methodLink (own o) idx Lib.Math.max.name ∈ WS ∧ Cond.static Lib.Math.max.name ∈ WS ∧ Cond.initialized "java/lang/Math" ∈ WS ∧ Cond.code Lib.Math.max.name Lib.Math.max.code 2 (some .int) ∈ WS) ∧
  (∀ j, ∀ q ∈ am_hs (am_mt G j), q.2.2.2 ≠ 0 ∧ Cond.classLink (own (am_o (am_mt G j))) q.2.2.2 (xn (am_pl G (am_o (am_mt G j)) q.2.2.2).2.1) ∈ WS ∧ (am_pl G (am_o (am_mt G j)) q.2.2.2).2.1 < 4 ∧ ∀ x, x < 4 → Cond.castable (xn x) (xn x) ∈ WS) ∧
  (∀ o idx x ic z, am_pl G o idx = (5, x, ic, z) → x < 4 ∧ Cond.classLink (own o) idx (xn x) ∈ WS ∧ Cond.initialized (xn x) ∈ WS ∧ Bundle.fit (xn x) = true ∧ ∀ w ∈ Bundle.ownAtoms0 (own o) ic (xn x) ["java/lang/RuntimeException", "java/lang/Exception"], w ∈ WS ∨ w ∈ am_zw)
section AMS
variable {p : Program} {l : Launch} {e : Env} {R : Room} {s : State} {m : MethodId} {args : Array Value} {below : List Frame} {meth : Method} {c : Code} {H : Heap} {locs : List Loc} {Qf : State → Prop}
variable {G : am_G} {cl : List vw_C} {own xn : Nat → String} {host : String} {WS : List Cond} {D : va_G} {cA : Nat → ClassId} {b0 b L : Nat} {xs : Nat → Int32} {Z : State → Prop} {M : am_M}
theorem am_named (hw : (am_cw M).before args s = true) : ∃ mk methM cM, s.methodNamed? (am_y M) = some mk ∧ s.vm.method? mk = some methM ∧ methM.code = some cM ∧ cM.maxLocals = am_mL M ∧ parseMethodDescriptor (am_y M).desc = some methM.sig := by
  unfold am_cw at hw
  split at hw
  · obtain ⟨mk, hn⟩ := Cond.code_named hw
    obtain ⟨methM, cM, h1, h2, -, h4, -, -, -, h8⟩ := Cond.code_spec hn hw
    exact ⟨mk, methM, cM, hn, h1, h2, h4, h8⟩
  · obtain ⟨mk, methM, cM, hn, h1, h2, -, h4, -, -, -, h8⟩ := Cond.codeWith_spec hw
    exact ⟨mk, methM, cM, hn, h1, h2, h4, h8⟩
theorem am_tab (hw : (am_cw M).before args s = true) (hn : s.methodNamed? (am_y M) = some m) (hm : s.vm.method? m = some meth) (hc : meth.code = some c) : c.exceptionTable.toList.map (fun h => (h.startPc, h.endPc, h.handlerPc, h.catchType)) = am_hs M := by
  unfold am_cw at hw
  split at hw
  · rename_i hs
    obtain ⟨meth', c', hm', hc', -, -, -, -, he', -⟩ := Cond.code_spec hn hw
    cases hm.symm.trans hm'
    cases hc.symm.trans hc'
    rw [hs]
    have : c.exceptionTable = #[] := by simpa using he'
    rw [this]
    rfl
  · rename_i q r hs
    obtain ⟨mk, meth', c', hn', hm', hc', -, -, ht, -, -, -⟩ := Cond.codeWith_spec hw
    cases hn.symm.trans hn'
    cases hm.symm.trans hm'
    cases hc.symm.trans hc'
    rw [hs]
    exact ht
theorem am_words (hgood : ∀ w ∈ WS, am_gw w) {j : Nat} (hok : am_okm G own WS j) (hts : ∀ w ∈ WS, w.before args s = true) : ∀ w ∈ am_cw (am_mt G j) :: WS, ∀ (a' : Array Value) (U : State), s.WarmedH U.vm → w.before a' U = true := fun w hw a' U hW => by
  have hw' : w ∈ WS := by
    rcases List.mem_cons.mp hw with h | h
    · rw [h]; exact hok.2.2.2.2.2.2
    · exact h
  exact hgood w hw' _ _ _ _ hW (hts w hw')
theorem am_back (hgood : ∀ w ∈ WS, am_gw w) {j : Nat} (hok : am_okm G own WS j) (hts : ∀ w ∈ WS, w.before args s = true) {rm : Room} {Pc : Array Value → State → Prop} {Qc : Array Value → State → Outcome → State → Prop} {mc ms : Nat} {free : Addr → Prop}
    (hM : Met l (am_y (am_mt G j)) (am_cw (am_mt G j) :: WS) rm Pc Qc mc ms free) (hblind : FrameBlind Pc) (hrc : rm.cells = mc) (hrs : rm.slots = ms) (hfr : rm.frames + 1 ≤ R.frames) (hlo : 8 + (am_mL (am_mt G j) + 11) + rm.locals ≤ R.locals) :
    Back l R p e below s args (am_y (am_mt G j)) 3 8 (PreOf R mc ms Pc) (PostOf Qc mc ms free) := by
  have hws := am_words hgood hok hts
  have hin : ∀ (a' : Array Value) (U : State), s.WarmedH U.vm → (Cond.initialized (am_y (am_mt G j)).cls).before a' U = true := fun a' U hW => hws _ (List.mem_cons_of_mem _ hok.2.2.2.2.2.1) a' U hW
  cases hh : am_hs (am_mt G j) with
  | nil => exact back_of (bytes := am_b (am_mt G j)) (maxL := am_mL (am_mt G j)) (ret := am_rt (am_mt G j)) hM hblind hrc hrs hfr hlo hws (by unfold am_cw; rw [hh]; exact List.mem_cons_self) hin
  | cons q r => exact va_backW (hh := q :: r) (bytes := am_b (am_mt G j)) (maxL := am_mL (am_mt G j)) (ret := am_rt (am_mt G j)) hM hblind hrc hrs hfr hlo hws (by unfold am_cw; rw [hh]; exact List.mem_cons_self) hin
theorem am_Y_mv {U : State} (hY : am_Y G cl own D cA b0 b L xs s) (hal : s.vm.Alike U.vm) (hU : U.heap = H) {h : am_H} (hX : am_X G cl D cA b0 b L xs h H) (hS : va_S (fun q => b ≤ q) s.heap H locs) : am_Y G cl own D cA b0 b L xs U := by
  obtain ⟨h1, h2, h3, h4, h5⟩ := hY
  refine ⟨va_K.moved hal h1, h2, by rw [hU]; exact Nat.le_trans h3 hS.1, (h4.moved hal).kept ?_, by rw [hU]; exact hX.2.2.2.2⟩
  rw [hU]
  exact hS.2.1 b0 (Nat.lt_of_lt_of_le h2 h3) (by show ¬ b ≤ b0; omega)
theorem am_blind (hZm : ∀ (s U : State), Z s → s.vm.Alike U.vm → (∀ q : Nat, q < s.heap.size → ¬ b ≤ q → U.heap[q]? = s.heap[q]?) → Z U) (as : List Value) (h : am_H) : FrameBlind (am_Pc G cl own D cA b0 b L xs Z as h) := fun a U g mk q => by
  obtain ⟨q0, q1, ⟨h1, h2, h3, h4, h5⟩, q3⟩ := q
  exact ⟨q0, q1, ⟨va_K.moved (u := U) (U := U.calling g mk a) (Vm.Alike.refl U.vm) h1, h2, h3, va_X.moved (u := U) (U := U.calling g mk a) (Vm.Alike.refl U.vm) h4, h5⟩, hZm U (U.calling g mk a) q3 (Vm.Alike.refl U.vm) (fun _ _ _ => rfl)⟩
/-- what a walk of M knows -/
def am_F (own : Nat → String) (WS : List Cond) (M : am_M) (p : Program) (m : MethodId) (args : Array Value) (meth : Method) (c : Code) (s : State) : Prop :=
  p.tables.exec = Jvm.exec ∧ c.code = am_b M ∧ c.maxLocals = am_mL M ∧ s.vm.findClass (own (am_o M)) = some m.cls ∧ (∀ w ∈ WS, w.before args s = true) ∧ meth.sig.returnType = am_rt M ∧ meth.locks = false ∧ meth.name = (am_y M).name ∧ c.exceptionTable.toList.map (fun h => (h.startPc, h.endPc, h.handlerPc, h.catchType)) = am_hs M
/-- what the rest of a walk gives -/
def am_K (k : Nat → List (Nat × Value) → List Value → am_H → Nat → Nat → Prop) (G : am_G) (cl : List vw_C) (D : va_G) (cA : Nat → ClassId) (b0 b L : Nat) (xs : Nat → Int32) (M : am_M) (p : Program) (l : Launch) (e : Env) (R : Room) (s : State) (m : MethodId) (args : Array Value) (below : List Frame) (meth : Method) (c : Code) (Qf : State → Prop) : Prop :=
  ∀ (pc : Nat) (al : List (Nat × Value)) (st : List Value) (h : am_H) (cn un : Nat) (H : Heap) (locs : List Loc) (ls : Array Slot), k pc al st h cn un → am_X G cl D cA b0 b L xs h H → va_S (fun q => b ≤ q) s.heap H locs → lv_has ls (am_mL M) (am_tl b0 b al) → cn ≤ am_mc M → un ≤ am_ms M →
    W p l e R s m args below meth c H locs cn un Qf (F0 m pc ls (st.map (am_tv b0 b)))
theorem am_snd_dflt {k : Nat → List (Nat × Value) → List Value → am_H → Nat → Nat → Prop} (hF : am_F own WS M p m args meth c s) (hk : am_K k G cl D cA b0 b L xs M p l e R s m args below meth c Qf) {ins : Instr} {len pc cn un : Nat} {al : List (Nat × Value)} {st : List Value} {h : am_H} {ls : Array Slot} (hd : decode (am_b M) pc = .ok (ins, len)) (hh : am_dflt k ins len pc al st h cn un)
    (hX : am_X G cl D cA b0 b L xs h H) (hS : va_S (fun q => b ≤ q) s.heap H locs) (hl : lv_has ls (am_mL M) (am_tl b0 b al)) (hc : cn ≤ am_mc M) (hu : un ≤ am_ms M) : W p l e R s m args below meth c H locs cn un Qf (F0 m pc ls (st.map (am_tv b0 b))) := by
  unfold am_dflt at hh
  split at hh
  · rename_i q hq
    obtain ⟨hlen, hh⟩ := hh
    exact am_r_pure hF.1 hF.2.1 hq hd hlen (hk _ _ _ _ _ _ _ _ _ hh hX hS hl hc hu)
  · split at hh
    · rename_i q hq
      obtain ⟨hlen, ht, hh⟩ := hh
      subst hlen
      refine am_r_br hF.1 hF.2.1 hq hd ht (fun z => ?_) (fun z => ?_)
      · rw [if_pos z] at hh
        exact hk _ _ _ _ _ _ _ _ _ hh hX hS hl hc hu
      · rw [if_neg (by rw [z]; decide)] at hh
        exact hk _ _ _ _ _ _ _ _ _ hh hX hS hl hc hu
    · split at hh
      · rename_i q hq
        obtain ⟨ht, hh⟩ := hh
        exact am_r_sw hF.1 hF.2.1 hq hd ht (hk _ _ _ _ _ _ _ _ _ hh hX hS hl hc hu)
      · exact hh.elim
end AMS
