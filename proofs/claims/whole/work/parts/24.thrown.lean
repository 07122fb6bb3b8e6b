/-! Part 24: exceptions -/
section AMT
variable {p : Program} {l : Launch} {e : Env} {R : Room} {s : State} {m : MethodId} {args : Array Value} {below : List Frame} {meth : Method} {c : Code} {T : State} {H : Heap} {locs : List Loc} {cells slots : Nat} {Q : State → Prop}
/-- the method is invoked, and throws -/
theorem am_thr {y : MethodName} {ws : List Cond} {rm : Room} {Pc : Array Value → State → Prop} {Qc : Array Value → State → Outcome → State → Prop} {mc ms : Nat} {free : Addr → Prop} {maxL : Nat} {U : State} {g : JFrame} {ig : Instr} {mk : MethodId} {a : Array Value}
    (hM : am_MX l y ws rm Pc Qc mc ms free) (hblind : FrameBlind Pc) (hrc : rm.cells = mc) (hrs : rm.slots = ms) (hframes : rm.frames + 1 ≤ R.frames) (hlocals : 8 + (maxL + 11) + rm.locals ≤ R.locals)
    (hws : ∀ w ∈ ws, ∀ (a' : Array Value) (U : State), s.WarmedH U.vm → w.before a' U = true) {methY : Method} {cY : Code} (hmY : U.vm.method? mk = some methY) (hcY : methY.code = some cY) (hlY : cY.maxLocals = maxL) (hinit : ∀ (a' : Array Value) (U : State), s.WarmedH U.vm → (Cond.initialized y.cls).before a' U = true)
    (X : Stand p l e R s m args below meth c U locs cells slots) (hg : g.method = m) (hsize : g.locals.size = c.maxLocals) (hdg : decode c.code g.pc = .ok (ig, 3)) (hW : 2 * g.monitorRoom + (g.stack.map fun v => v.category).sum ≤ 8) (hn : U.methodNamed? y = some mk) (hcells : cells + mc ≤ R.cells) (hslots : slots + ms ≤ R.slots) (hP : Pc a U)
    (hthr : ∀ st oc t, Qc a st oc t → ∃ x, oc = .threw x) :
    ∃ (x : Addr) (T' t st0 : State) (Ls : List Loc), Stand p l e R s m args below meth c T' (locs ++ Ls) (cells + mc) (slots + ms) ∧ (∀ q ∈ Ls, free q.base) ∧ T'.heap = t.heap ∧ T'.vm = t.vm ∧ st0.heap = U.heap ∧ Qc a st0 (.threw x) t ∧
      Steps p.tables e below (doInvoke e (U.setTop g) [] mk a).1 ((T'.setTop g).pushFrame (.throwing x)) := by
  obtain ⟨kY, hkY, -⟩ := className_of_methodNamed hn
  have hinitY : kY.init = .initialized := Cond.initialized_spec (findClass_of_methodNamed hn) hkY (hinit a U X.warmed)
  have h : At U g.method c below := by rw [hg]; exact X.here
  have happ : (headSpec ws rm).appliesLoose y e.platform (U.calling g mk a) = true :=
    Spec.appliesLoose_calling (g := g) h hdg hn hkY hinitY
      (X.room_calling (g := g) (R' := (headSpec ws rm).room) hsize hmY hcY hframes (by rw [hlY]; show 2 * g.monitorRoom + _ + (maxL + 11) + rm.locals ≤ _; omega) (by show cells + rm.cells ≤ _; rw [hrc]; exact hcells) (by show slots + rm.slots ≤ _; rw [hrs]; exact hslots)) (atoms_intro fun w hw => hws w hw _ _ X.warmed)
  obtain ⟨mid, hmid⟩ := h.above
  have hfr : (U.setTop g).frames = (.java g :: mid) ++ below := by rw [State.frames_setTop' g h.top, hmid]; rfl
  obtain ⟨o, s₂, hsteps, -, hend, hq, Ls, ⟨hW2, hsame⟩, hL⟩ := Steps.callFree hM p X.admits X.cas X.clock (acts := []) hfr happ (hblind _ _ _ _ hP) trivial
  rw [State.frames_setTop' g h.top] at hend
  obtain ⟨x, rfl⟩ := hthr _ _ _ hq
  rw [X.tail] at hend
  obtain ⟨sameA, sameB, hcl, hsl, hcl2, hsl2⟩ := id hsame
  obtain ⟨T', X', hW', hsame', ht⟩ := X.outOfThrown hg hend hW2 hsame
  refine ⟨x, T', s₂, (U.setTop g).pushFrame (.invoking mk a), Ls, X', hL, ?_, ?_, rfl, hq, ?_⟩
  · rw [ht]; rfl
  · rw [ht]; rfl
  · rw [← ht]; exact hsteps
theorem am_fg_hit {Qh : Handler → Pre} {E : CtlPost} {d9 : Bool} {acts : List Action} {u : State} {f : JFrame} {a : Addr} {x : ExceptionTableEntry} {t : List ExceptionTableEntry} {cT : ClassId} {cell : Cell} (hx : covers x f.pc = true) (h0 : x.catchType ≠ 0) (hl : u.vm.ClassLinks e.platform f.method.cls x.catchType cT) (hcell : u.heap[a]? = some cell) (hobj : ∀ k, cell.vm ≠ .statics k)
    (hk : ∃ k, u.vm.classes[cell.cls]? = some k) (hc : ∃ k, u.vm.classes[cT]? = some k) (hfit : u.vm.assignable cell.cls cT = true) :
    wp (findHandler.go f a (x :: t)) Qh E e d9 acts u ↔ Qh (.found x.handlerPc) d9 acts (u.setVm (u.vm.noted f.method.cls x.catchType (.cls cT))) := by
  simp only [covers] at hx
  obtain ⟨ha, ht⟩ := (resolveClass_links e.toSetting hl).op (op := VmOp.resolveClass f.method.cls x.catchType) rfl
  have hal : u.vm.Alike (u.vm.noted f.method.cls x.catchType (.cls cT)) := (Vm.Alike.refl u.vm).noted _ _ _
  obtain ⟨k1, hk1⟩ := hk
  obtain ⟨k2, hk2⟩ := hc
  obtain ⟨k3, hk3, -⟩ := hal.2.2 _ _ hk1
  obtain ⟨k4, hk4, -⟩ := hal.2.2 _ _ hk2
  have hf : (u.vm.noted f.method.cls x.catchType (.cls cT)).assignable cell.cls cT = true := by rw [hal.assignable]; exact hfit
  simp [findHandler.go, hx, h0, ha, ht, hcell, hobj, hk3, hk4, hf, VmOp.dirties, VmOp.acts]
theorem am_fg_miss {Qh : Handler → Pre} {E : CtlPost} {d9 : Bool} {acts : List Action} {u : State} {f : JFrame} {a : Addr} {x : ExceptionTableEntry} {t : List ExceptionTableEntry} {cT : ClassId} {cell : Cell} (hx : covers x f.pc = true) (h0 : x.catchType ≠ 0) (hl : u.vm.ClassLinks e.platform f.method.cls x.catchType cT) (hcell : u.heap[a]? = some cell) (hobj : ∀ k, cell.vm ≠ .statics k)
    (hk : ∃ k, u.vm.classes[cell.cls]? = some k) (hc : ∃ k, u.vm.classes[cT]? = some k) (hfit : u.vm.assignable cell.cls cT = false) :
    wp (findHandler.go f a (x :: t)) Qh E e d9 acts u ↔ wp (findHandler.go f a t) Qh E e d9 acts (u.setVm (u.vm.noted f.method.cls x.catchType (.cls cT))) := by
  simp only [covers] at hx
  obtain ⟨ha, ht⟩ := (resolveClass_links e.toSetting hl).op (op := VmOp.resolveClass f.method.cls x.catchType) rfl
  have hal : u.vm.Alike (u.vm.noted f.method.cls x.catchType (.cls cT)) := (Vm.Alike.refl u.vm).noted _ _ _
  obtain ⟨k1, hk1⟩ := hk
  obtain ⟨k2, hk2⟩ := hc
  obtain ⟨k3, hk3, -⟩ := hal.2.2 _ _ hk1
  obtain ⟨k4, hk4, -⟩ := hal.2.2 _ _ hk2
  have hf : (u.vm.noted f.method.cls x.catchType (.cls cT)).assignable cell.cls cT = false := by rw [hal.assignable]; exact hfit
  conv => lhs; unfold findHandler.go
  simp [hx, h0, ha, ht, hcell, hobj, hk3, hk4, hf, VmOp.dirties, VmOp.acts]
/-- the search through a table of handlers: f: the class that a place of the pool names; x: the exception's class -/
theorem am_find {f9 : Nat → Nat} {xn : Nat → String} {own : String} {x t : Nat} {g : JFrame} {a : Addr} {cell : Cell} {cX : ClassId} (hg : g.method = m) (hown : s.vm.findClass own = some m.cls) (hpl : e.platform.magicAccessors = ({} : Platform).magicAccessors) (hcX : s.vm.findClass (xn x) = some cX) (hcls : cell.cls = cX) (hobj : cell.vm.isStatics = false) (hself : s.vm.assignable cX cX = true) :
    ∀ (tb : List ExceptionTableEntry) (u : State), s.WarmedH u.vm → u.heap[a]? = some cell → (∀ y ∈ tb, y.catchType ≠ 0 ∧ (Cond.classLink own y.catchType (xn (f9 y.catchType))).before args s = true ∧ (f9 y.catchType ≠ x → va_Nc (xn x) (xn (f9 y.catchType)) s)) →
      am_hf f9 (tb.map (fun h => (h.startPc, h.endPc, h.handlerPc, h.catchType))) g.pc x = some t → ∃ vm' : Vm, s.WarmedH vm' ∧ ∀ (Qh : Handler → Pre) (E : CtlPost) (d9 : Bool) (acts : List Action), wp (findHandler.go g a tb) Qh E e d9 acts u ↔ Qh (.found t) d9 acts (u.setVm vm') := by
  intro tb
  induction tb with
  | nil =>
    intro u _ _ _ h
    cases h
  | cons y r ih =>
    intro u hW hcell hall hf
    obtain ⟨h0, hlink, hnot⟩ := hall y List.mem_cons_self
    have hall' := fun z hz => hall z (List.mem_cons_of_mem _ hz)
    by_cases hcov : covers y g.pc = true
    · have hcov2 : y.startPc ≤ g.pc ∧ g.pc < y.endPc := by
        have := hcov
        simp only [covers, Bool.and_eq_true, decide_eq_true_eq] at this
        exact this
      obtain ⟨cT, hcT, hcl⟩ := Cond.classLink_spec hown hlink e.platform hpl
      obtain ⟨dk, _, _, kt, hd, _, _, _, _, hkt, _, hopen⟩ := hcl.here
      have hcl2 := hW.classLinks hcl
      have hW' : s.WarmedH (u.vm.noted m.cls y.catchType (.cls cT)) := hW.noted hd hopen (State.rightAt_cls hcl)
      have hal := hW.alike
      obtain ⟨kt', hkt', -⟩ := hal.2.2 _ _ hkt
      obtain ⟨kX, hkX⟩ := Vm.classAt_of_findClass hcX
      obtain ⟨kX', hkX', -⟩ := hal.2.2 _ _ hkX
      subst hg
      subst hcls
      by_cases hxx : f9 y.catchType = x
      · rw [hxx] at hcT
        cases hcX.symm.trans hcT
        have ht : y.handlerPc = t := by
          have h9 : (some y.handlerPc : Option Nat) = some t := by
            rw [← hf]
            exact (if_pos ⟨hcov2.1, hcov2.2, hxx⟩).symm
          exact Option.some.inj h9
        subst ht
        exact ⟨_, hW', fun Qh E d9 acts => am_fg_hit hcov h0 hcl2 hcell (VmData.ne_statics_of hobj) ⟨kX', hkX'⟩ ⟨kt', hkt'⟩ (by rw [hal.assignable]; exact hself)⟩
      · obtain ⟨c1, c2, n1, n2, n3⟩ := hnot hxx
        cases hcX.symm.trans n1
        cases hcT.symm.trans n2
        have hf' : am_hf f9 (r.map (fun h => (h.startPc, h.endPc, h.handlerPc, h.catchType))) g.pc x = some t := by
          rw [← hf]
          exact (if_neg (fun z => hxx z.2.2)).symm
        obtain ⟨vm', q1, q2⟩ := ih (u.setVm (u.vm.noted g.method.cls y.catchType (.cls cT))) hW' hcell hall' hf'
        exact ⟨vm', q1, fun Qh E d9 acts => (am_fg_miss hcov h0 hcl2 hcell (VmData.ne_statics_of hobj) ⟨kX', hkX'⟩ ⟨kt', hkt'⟩ (by rw [hal.assignable]; exact n3)).trans (q2 Qh E d9 acts)⟩
    · have hcov : covers y g.pc = false := by
        cases h : covers y g.pc
        · rfl
        · exact absurd h hcov
      have hf' : am_hf f9 (r.map (fun h => (h.startPc, h.endPc, h.handlerPc, h.catchType))) g.pc x = some t := by
        rw [← hf]
        refine (if_neg (fun z => ?_)).symm
        have : covers y g.pc = true := by
          simp only [covers, Bool.and_eq_true, decide_eq_true_eq]
          exact ⟨z.1, z.2.1⟩
        rw [hcov] at this
        cases this
      obtain ⟨vm', q1, q2⟩ := ih u hW hcell hall' hf'
      exact ⟨vm', q1, fun Qh E d9 acts => by rw [W.findHandler_go_skip hcov]; exact q2 Qh E d9 acts⟩
/-- an exception over the method's own frame, and a handler for it -/
theorem am_catch (X : Stand p l e R s m args below meth c T locs cells slots) {f9 : Nat → Nat} {xn : Nat → String} {own : String} {x t : Nat} {g : JFrame} {a : Addr} {cell : Cell} {cX : ClassId} (hg : g.method = m) (hown : s.vm.findClass own = some m.cls) (hcX : s.vm.findClass (xn x) = some cX) (hcls : cell.cls = cX) (hobj : cell.vm.isStatics = false) (hself : s.vm.assignable cX cX = true) (hcell : T.heap[a]? = some cell)
    (hall : ∀ y ∈ c.exceptionTable.toList, y.catchType ≠ 0 ∧ (Cond.classLink own y.catchType (xn (f9 y.catchType))).before args s = true ∧ (f9 y.catchType ≠ x → va_Nc (xn x) (xn (f9 y.catchType)) s))
    (hf : am_hf f9 (c.exceptionTable.toList.map (fun h => (h.startPc, h.endPc, h.handlerPc, h.catchType))) g.pc x = some t) :
    ∃ vm' : Vm, Stand p l e R s m args below meth c (T.setVm vm') locs cells slots ∧ ∀ target, Steps p.tables e below ((T.setVm vm').setTop { g with pc := t, stack := [.ref a] }) target → Steps p.tables e below ((T.setTop g).pushFrame (.throwing a)) target := by
  have hpl : e.platform.magicAccessors = ({} : Platform).magicAccessors := by rw [X.admits.platform]
  obtain ⟨vm', hW', hfind⟩ := am_find (g := g) (a := a) hg hown hpl hcX hcls hobj hself c.exceptionTable.toList ((T.setTop g).pushFrame (.throwing a)) X.warmed hcell hall hf
  refine ⟨vm', X.noted hW', fun target hrest => ?_⟩
  subst hg
  have h := X.here
  obtain ⟨hgo, hw⟩ := h.throwing a
  refine Steps.head hgo hw ?_
  have hcatch : (stepThrowing e ((T.setTop g).pushFrame (.throwing a)) a (.java g :: T.frames.tail)).Is ((((T.setTop g).pushFrame (.throwing a)).setVm vm').setFrames (.java { g with pc := t, stack := [.ref a] } :: T.frames.tail)) [] := by
    simp only [stepThrowing, searchFrame, vmDo]
    generalize hr : Sem.go _ e false [] ((T.setTop g).pushFrame (.throwing a)) = res
    obtain ⟨as, rfl, ha⟩ := Sem.eq_ok_of hr (a := Handler.found t) (s' := ((T.setTop g).pushFrame (.throwing a)).setVm vm') (acts' := []) (by simp [W.findHandler_eq (s := (T.setTop g).pushFrame (.throwing a)) X.method' X.code, hfind _ _ _ _])
    exact ⟨rfl, ha⟩
  rw [stepThread_throwing (frames_entered h.top _), hcatch.1]
  obtain ⟨g₀, hg⟩ := Option.isSome_iff_exists.mp h.top
  obtain ⟨r, hr⟩ := State.topJava?_eq_some.mp hg
  have hr' : (T.setVm vm').frames = .java g₀ :: r := hr
  rw [State.setTop_of_frames _ hr'] at hrest
  have e5 : ∀ (u : State) (F F2 : List Frame), ((u.setFrames F).setVm vm').setFrames F2 = (u.setVm vm').setFrames F2 := fun u F F2 => by
    have h1 : (u.setFrames F).setVm vm' = (u.setVm vm').setFrames F := rfl
    rw [h1, State.setFrames_setFrames]
  rw [hr, List.tail_cons, State.pushFrame, e5, State.setTop_of_frames _ hr, e5]
  exact hrest
/-- new X; dup; X.<init>(); athrow -/
theorem am_thr_new {G : am_G} {cl : List vw_C} {xn : Nat → String} {D : va_G} {cA : Nat → ClassId} {b0 b L : Nat} {xs : Nat → Int32} {h : am_H} {cc : ByteArray} {pc idx ic x mL : Nat} {ls : Array Slot} {st : List Value} {own : String} (htr : l.stackTraces = false) (hx : p.tables.exec = Jvm.exec) (hb : c.code = cc) (hml : c.maxLocals = mL) (hown : s.vm.findClass own = some m.cls)
    (hcl : (Cond.classLink own idx (xn x)).before args s = true) (hini : (Cond.initialized (xn x)).before args s = true) (hfit : Bundle.fit (xn x) = true) (hat : ∀ w ∈ Bundle.ownAtoms0 own ic (xn x) ["java/lang/RuntimeException", "java/lang/Exception"], w.before args s = true)
    (hd : decode cc pc = .ok (.new idx, 3)) (hd3 : decode cc (pc + 3) = .ok (.dup, 1)) (hd4 : decode cc (pc + 4) = .ok (.invokespecial ic, 3)) (hd7 : decode cc (pc + 7) = .ok (.athrow, 1)) (htab : c.exceptionTable.toList.map (fun h => (h.startPc, h.endPc, h.handlerPc, h.catchType)) = []) (hlk : meth.locks = false)
    (hcn : cells + 1 ≤ R.cells) (hun : slots + 6 ≤ R.slots) (hfr : 5 < R.frames) (hlo : am_w8 st + 81 ≤ R.locals) (hls : ls.size = mL) (hX : am_X G cl D cA b0 b L xs h H) (hS : va_S (fun q => b ≤ q) s.heap H locs) :
    W p l e R s m args below meth c H locs cells slots (am_MQ below (am_Qc G cl xn D cA b0 b L xs (.inr x) (am_setG h (am_g h + 1))) args s R.cells R.slots (fun q => b ≤ q)) (F0 m pc ls (st.map (am_tv b0 b))) := by
  sorry
end AMT
