/-! Part 24: exceptions -/
section AMT
variable {p : Program} {l : Launch} {e : Env} {R : Room} {s : State} {m : MethodId} {args : Array Value} {below : List Frame} {meth : Method} {c : Code} {T : State} {H : Heap} {locs : List Loc} {cells slots : Nat} {Q : State → Prop}
/-- the method is invoked, and throws -/
theorem am_thr {y : MethodName} {ws : List Cond} {rm : Room} {Pc : Array Value → State → Prop} {Qc : Array Value → State → Outcome → State → Prop} {mc ms : Nat} {free : Addr → Prop} {maxL : Nat} {U : State} {g : JFrame} {ig : Instr} {mk : MethodId} {a : Array Value}
    (hM : am_MX l y ws rm Pc Qc mc ms free) (hblind : FrameBlind Pc) (hrc : rm.cells = mc) (hrs : rm.slots = ms) (hframes : rm.frames + 1 ≤ R.frames) (hlocals : 8 + (maxL + 11) + rm.locals ≤ R.locals)
    (hws : ∀ w ∈ ws, ∀ (a' : Array Value) (U : State), s.WarmedH U.vm → w.before a' U = true) {methY : Method} {cY : Code} (hmY : U.vm.method? mk = some methY) (hcY : methY.code = some cY) (hlY : cY.maxLocals = maxL) (hinit : ∀ (a' : Array Value) (U : State), s.WarmedH U.vm → (Cond.initialized y.cls).before a' U = true)
    (X : Stand p l e R s m args below meth c U locs cells slots) (hg : g.method = m) (hsize : g.locals.size = c.maxLocals) (hdg : decode c.code g.pc = .ok (ig, 3)) (hW : 2 * g.monitorRoom + (g.stack.map fun v => v.category).sum ≤ 8) (hn : U.methodNamed? y = some mk) (hcells : cells + mc ≤ R.cells) (hslots : slots + ms ≤ R.slots) (hP : Pc a U)
    (hthr : ∀ st oc t, Qc a st oc t → ∃ x, oc = .threw x) :
    ∃ (x : Addr) (T' t st0 : State) (Ls : List Loc), Stand p l e R s m args below meth c T' (locs ++ Ls) (cells + mc) (slots + ms) ∧ (∀ q ∈ Ls, free q.base) ∧ T'.heap = t.heap ∧ T'.vm = t.vm ∧ st0.heap = U.heap ∧ Qc a st0 (.threw x) t ∧
      Steps p.tables e below (doInvoke e (U.setTop g) [] mk a).1 ((T'.setTop g).pushFrame (.throwing x)) := by
  obtain ⟨kY, hkY, -⟩ := className_of_methodNamed hn
  have hinitY : kY.init = .initialized := Cond.initialized_spec (findClass_of_methodNamed hn) hkY (hinit a U X.warmed)
  have h : At U g.method c below := by rw [hg]; exact X.here
  have happ : (headSpec ws rm).appliesLoose y e.platform (U.calling g mk a) = true :=
    Spec.appliesLoose_calling (g := g) h hdg hn hkY hinitY
      (X.room_calling (g := g) (R' := (headSpec ws rm).room) hsize hmY hcY hframes (by rw [hlY]; show 2 * g.monitorRoom + _ + (maxL + 11) + rm.locals ≤ _; omega) (by show cells + rm.cells ≤ _; rw [hrc]; exact hcells) (by show slots + rm.slots ≤ _; rw [hrs]; exact hslots)) (atoms_intro fun w hw => hws w hw _ _ X.warmed)
  obtain ⟨mid, hmid⟩ := h.above
  have hfr : (U.setTop g).frames = (.java g :: mid) ++ below := by rw [State.frames_setTop' g h.top, hmid]; rfl
  obtain ⟨o, s₂, hsteps, -, hend, hq, Ls, ⟨hW2, hsame⟩, hL⟩ := Steps.callFree hM p X.admits X.cas X.clock (acts := []) hfr happ (hblind _ _ _ _ hP) trivial
  rw [State.frames_setTop' g h.top] at hend
  obtain ⟨x, rfl⟩ := hthr _ _ _ hq
  rw [X.tail] at hend
  obtain ⟨sameA, sameB, hcl, hsl, hcl2, hsl2⟩ := id hsame
  obtain ⟨T', X', hW', hsame', ht⟩ := X.outOfThrown hg hend hW2 hsame
  refine ⟨x, T', s₂, (U.setTop g).pushFrame (.invoking mk a), Ls, X', hL, ?_, ?_, rfl, hq, ?_⟩
  · rw [ht]; rfl
  · rw [ht]; rfl
  · rw [← ht]; exact hsteps
theorem am_fg_hit {Qh : Handler → Pre} {E : CtlPost} {d9 : Bool} {acts : List Action} {u : State} {f : JFrame} {a : Addr} {x : ExceptionTableEntry} {t : List ExceptionTableEntry} {cT : ClassId} {cell : Cell} (hx : covers x f.pc = true) (h0 : x.catchType ≠ 0) (hl : u.vm.ClassLinks e.platform f.method.cls x.catchType cT) (hcell : u.heap[a]? = some cell) (hobj : ∀ k, cell.vm ≠ .statics k)
    (hk : ∃ k, u.vm.classes[cell.cls]? = some k) (hc : ∃ k, u.vm.classes[cT]? = some k) (hfit : u.vm.assignable cell.cls cT = true) :
    wp (findHandler.go f a (x :: t)) Qh E e d9 acts u ↔ Qh (.found x.handlerPc) d9 acts (u.setVm (u.vm.noted f.method.cls x.catchType (.cls cT))) := by
  simp only [covers] at hx
  obtain ⟨ha, ht⟩ := (resolveClass_links e.toSetting hl).op (op := VmOp.resolveClass f.method.cls x.catchType) rfl
  have hal : u.vm.Alike (u.vm.noted f.method.cls x.catchType (.cls cT)) := (Vm.Alike.refl u.vm).noted _ _ _
  obtain ⟨k1, hk1⟩ := hk
  obtain ⟨k2, hk2⟩ := hc
  obtain ⟨k3, hk3, -⟩ := hal.2.2 _ _ hk1
  obtain ⟨k4, hk4, -⟩ := hal.2.2 _ _ hk2
  have hf : (u.vm.noted f.method.cls x.catchType (.cls cT)).assignable cell.cls cT = true := by rw [hal.assignable]; exact hfit
  simp [findHandler.go, hx, h0, ha, ht, hcell, hobj, hk3, hk4, hf, VmOp.dirties, VmOp.acts]
theorem am_fg_miss {Qh : Handler → Pre} {E : CtlPost} {d9 : Bool} {acts : List Action} {u : State} {f : JFrame} {a : Addr} {x : ExceptionTableEntry} {t : List ExceptionTableEntry} {cT : ClassId} {cell : Cell} (hx : covers x f.pc = true) (h0 : x.catchType ≠ 0) (hl : u.vm.ClassLinks e.platform f.method.cls x.catchType cT) (hcell : u.heap[a]? = some cell) (hobj : ∀ k, cell.vm ≠ .statics k)
    (hk : ∃ k, u.vm.classes[cell.cls]? = some k) (hc : ∃ k, u.vm.classes[cT]? = some k) (hfit : u.vm.assignable cell.cls cT = false) :
    wp (findHandler.go f a (x :: t)) Qh E e d9 acts u ↔ wp (findHandler.go f a t) Qh E e d9 acts (u.setVm (u.vm.noted f.method.cls x.catchType (.cls cT))) := by
  simp only [covers] at hx
  obtain ⟨ha, ht⟩ := (resolveClass_links e.toSetting hl).op (op := VmOp.resolveClass f.method.cls x.catchType) rfl
  have hal : u.vm.Alike (u.vm.noted f.method.cls x.catchType (.cls cT)) := (Vm.Alike.refl u.vm).noted _ _ _
  obtain ⟨k1, hk1⟩ := hk
  obtain ⟨k2, hk2⟩ := hc
  obtain ⟨k3, hk3, -⟩ := hal.2.2 _ _ hk1
  obtain ⟨k4, hk4, -⟩ := hal.2.2 _ _ hk2
  have hf : (u.vm.noted f.method.cls x.catchType (.cls cT)).assignable cell.cls cT = false := by rw [hal.assignable]; exact hfit
  conv => lhs; unfold findHandler.go
  simp [hx, h0, ha, ht, hcell, hobj, hk3, hk4, hf, VmOp.dirties, VmOp.acts]
/-- the search through a table of handlers: f: the class that a place of the pool names; x: the exception's class -/
theorem am_find {f9 : Nat → Nat} {xn : Nat → String} {own : String} {x t : Nat} {g : JFrame} {a : Addr} {cell : Cell} {cX : ClassId} (hg : g.method = m) (hown : s.vm.findClass own = some m.cls) (hpl : e.platform.magicAccessors = ({} : Platform).magicAccessors) (hcX : s.vm.findClass (xn x) = some cX) (hcls : cell.cls = cX) (hobj : cell.vm.isStatics = false) (hself : s.vm.assignable cX cX = true) :
    ∀ (tb : List ExceptionTableEntry) (u : State), s.WarmedH u.vm → u.heap[a]? = some cell → (∀ y ∈ tb, y.catchType ≠ 0 ∧ (Cond.classLink own y.catchType (xn (f9 y.catchType))).before args s = true ∧ (f9 y.catchType ≠ x → va_Nc (xn x) (xn (f9 y.catchType)) s)) →
      am_hf f9 (tb.map (fun h => (h.startPc, h.endPc, h.handlerPc, h.catchType))) g.pc x = some t → ∃ vm' : Vm, s.WarmedH vm' ∧ ∀ (Qh : Handler → Pre) (E : CtlPost) (d9 : Bool) (acts : List Action), wp (findHandler.go g a tb) Qh E e d9 acts u ↔ Qh (.found t) d9 acts (u.setVm vm') := by
  intro tb
  induction tb with
  | nil =>
    intro u _ _ _ h
    cases h
  | cons y r ih =>
    intro u hW hcell hall hf
    obtain ⟨h0, hlink, hnot⟩ := hall y List.mem_cons_self
    have hall' := fun z hz => hall z (List.mem_cons_of_mem _ hz)
    by_cases hcov : covers y g.pc = true
    · have hcov2 : y.startPc ≤ g.pc ∧ g.pc < y.endPc := by
        have := hcov
        simp only [covers, Bool.and_eq_true, decide_eq_true_eq] at this
        exact this
      obtain ⟨cT, hcT, hcl⟩ := Cond.classLink_spec hown hlink e.platform hpl
      obtain ⟨dk, _, _, kt, hd, _, _, _, _, hkt, _, hopen⟩ := hcl.here
      have hcl2 := hW.classLinks hcl
      have hW' : s.WarmedH (u.vm.noted m.cls y.catchType (.cls cT)) := hW.noted hd hopen (State.rightAt_cls hcl)
      have hal := hW.alike
      obtain ⟨kt', hkt', -⟩ := hal.2.2 _ _ hkt
      obtain ⟨kX, hkX⟩ := Vm.classAt_of_findClass hcX
      obtain ⟨kX', hkX', -⟩ := hal.2.2 _ _ hkX
      subst hg
      subst hcls
      by_cases hxx : f9 y.catchType = x
      · rw [hxx] at hcT
        cases hcX.symm.trans hcT
        have ht : y.handlerPc = t := by
          have h9 : (some y.handlerPc : Option Nat) = some t := by
            rw [← hf]
            exact (if_pos ⟨hcov2.1, hcov2.2, hxx⟩).symm
          exact Option.some.inj h9
        subst ht
        exact ⟨_, hW', fun Qh E d9 acts => am_fg_hit hcov h0 hcl2 hcell (VmData.ne_statics_of hobj) ⟨kX', hkX'⟩ ⟨kt', hkt'⟩ (by rw [hal.assignable]; exact hself)⟩
      · obtain ⟨c1, c2, n1, n2, n3⟩ := hnot hxx
        cases hcX.symm.trans n1
        cases hcT.symm.trans n2
        have hf' : am_hf f9 (r.map (fun h => (h.startPc, h.endPc, h.handlerPc, h.catchType))) g.pc x = some t := by
          rw [← hf]
          exact (if_neg (fun z => hxx z.2.2)).symm
        obtain ⟨vm', q1, q2⟩ := ih (u.setVm (u.vm.noted g.method.cls y.catchType (.cls cT))) hW' hcell hall' hf'
        exact ⟨vm', q1, fun Qh E d9 acts => (am_fg_miss hcov h0 hcl2 hcell (VmData.ne_statics_of hobj) ⟨kX', hkX'⟩ ⟨kt', hkt'⟩ (by rw [hal.assignable]; exact n3)).trans (q2 Qh E d9 acts)⟩
    · have hcov : covers y g.pc = false := by
        cases h : covers y g.pc
        · rfl
        · exact absurd h hcov
      have hf' : am_hf f9 (r.map (fun h => (h.startPc, h.endPc, h.handlerPc, h.catchType))) g.pc x = some t := by
        rw [← hf]
        refine (if_neg (fun z => ?_)).symm
        have : covers y g.pc = true := by
          simp only [covers, Bool.and_eq_true, decide_eq_true_eq]
          exact ⟨z.1, z.2.1⟩
        rw [hcov] at this
        cases this
      obtain ⟨vm', q1, q2⟩ := ih u hW hcell hall' hf'
      exact ⟨vm', q1, fun Qh E d9 acts => by rw [W.findHandler_go_skip hcov]; exact q2 Qh E d9 acts⟩
/-- an exception over the method's own frame, and a handler for it -/
theorem am_catch (X : Stand p l e R s m args below meth c T locs cells slots) {f9 : Nat → Nat} {xn : Nat → String} {own : String} {x t : Nat} {g : JFrame} {a : Addr} {cell : Cell} {cX : ClassId} (hg : g.method = m) (hown : s.vm.findClass own = some m.cls) (hcX : s.vm.findClass (xn x) = some cX) (hcls : cell.cls = cX) (hobj : cell.vm.isStatics = false) (hself : s.vm.assignable cX cX = true) (hcell : T.heap[a]? = some cell)
    (hall : ∀ y ∈ c.exceptionTable.toList, y.catchType ≠ 0 ∧ (Cond.classLink own y.catchType (xn (f9 y.catchType))).before args s = true ∧ (f9 y.catchType ≠ x → va_Nc (xn x) (xn (f9 y.catchType)) s))
    (hf : am_hf f9 (c.exceptionTable.toList.map (fun h => (h.startPc, h.endPc, h.handlerPc, h.catchType))) g.pc x = some t) :
    ∃ vm' : Vm, Stand p l e R s m args below meth c (T.setVm vm') locs cells slots ∧ ∀ target, Steps p.tables e below ((T.setVm vm').setTop { g with pc := t, stack := [.ref a] }) target → Steps p.tables e below ((T.setTop g).pushFrame (.throwing a)) target := by
  have hpl : e.platform.magicAccessors = ({} : Platform).magicAccessors := by rw [X.admits.platform]
  obtain ⟨vm', hW', hfind⟩ := am_find (g := g) (a := a) hg hown hpl hcX hcls hobj hself c.exceptionTable.toList ((T.setTop g).pushFrame (.throwing a)) X.warmed hcell hall hf
  refine ⟨vm', X.noted hW', fun target hrest => ?_⟩
  subst hg
  have h := X.here
  obtain ⟨hgo, hw⟩ := h.throwing a
  refine Steps.head hgo hw ?_
  have hcatch : (stepThrowing e ((T.setTop g).pushFrame (.throwing a)) a (.java g :: T.frames.tail)).Is ((((T.setTop g).pushFrame (.throwing a)).setVm vm').setFrames (.java { g with pc := t, stack := [.ref a] } :: T.frames.tail)) [] := by
    simp only [stepThrowing, searchFrame, vmDo]
    generalize hr : Sem.go _ e false [] ((T.setTop g).pushFrame (.throwing a)) = res
    obtain ⟨as, rfl, ha⟩ := Sem.eq_ok_of hr (a := Handler.found t) (s' := ((T.setTop g).pushFrame (.throwing a)).setVm vm') (acts' := []) (by simp [W.findHandler_eq (s := (T.setTop g).pushFrame (.throwing a)) X.method' X.code, hfind _ _ _ _])
    exact ⟨rfl, ha⟩
  rw [stepThread_throwing (frames_entered h.top _), hcatch.1]
  obtain ⟨g₀, hg⟩ := Option.isSome_iff_exists.mp h.top
  obtain ⟨r, hr⟩ := State.topJava?_eq_some.mp hg
  have hr' : (T.setVm vm').frames = .java g₀ :: r := hr
  rw [State.setTop_of_frames _ hr'] at hrest
  have e5 : ∀ (u : State) (F F2 : List Frame), ((u.setFrames F).setVm vm').setFrames F2 = (u.setVm vm').setFrames F2 := fun u F F2 => by
    have h1 : (u.setFrames F).setVm vm' = (u.setVm vm').setFrames F := rfl
    rw [h1, State.setFrames_setFrames]
  rw [hr, List.tail_cons, State.pushFrame, e5, State.setTop_of_frames _ hr, e5]
  exact hrest
/-- the walk, begun anew where it stands -/
theorem am_rebase (X : Stand p l e R s m args below meth c T locs cells slots) (hcn : cells + 1 ≤ R.cells) (hun : slots + 6 ≤ R.slots) : Stand p l e { frames := R.frames, cells := 1, slots := 6, locals := R.locals } (T.setFrames (.invoking m args :: below)) m args below meth c T [] 0 0 := by
  obtain ⟨g₀, hfr⟩ := X.frames_eq
  have hcur : T.cur < T.threads.size := State.cur_lt_of_frames hfr
  have hF : (T.setFrames (.invoking m args :: below)).frames = .invoking m args :: below := State.frames_setFrames _ hcur
  have hlim : e.platform.stackLimits (T.setFrames (.invoking m args :: below)).me = e.platform.stackLimits s.me := by rw [State.stackLimits_setFrames]; exact X.limits
  have hby : (T.setFrames (.invoking m args :: below)).me.stackBytes = s.me.stackBytes := by rw [State.stackBytes_setFrames]; exact X.bytes
  refine ⟨X.admits, X.cas, X.clock, hF, ?_, ?_, X.method', X.code, X.here, X.tail, State.WarmedH.refl (T.setFrames (.invoking m args :: below)), by rw [State.stackLimits_setFrames], by rw [State.stackBytes_setFrames], ?_⟩
  · have hr := X.room
    have e1 := State.localsInUse_invoking X.frames X.method X.code
    have e2 := State.localsInUse_invoking (s := T.setFrames (.invoking m args :: below)) hF X.method' X.code
    have h3 := X.cellsAbove hcn
    have h4 := X.slotsAbove hun
    have h5 : (T.setFrames (.invoking m args :: below)).slotsTrue = true := X.book
    simp only [State.hasRoom, Bool.and_eq_true, decide_eq_true_eq] at hr ⊢
    rw [hF, hlim, hby, e2]
    rw [X.frames, e1] at hr
    exact ⟨⟨⟨⟨hr.1.1.1.1, hr.1.1.1.2⟩, h3⟩, h4⟩, h5⟩
  · have hv : ∀ F : List Frame, (T.setFrames F).vm = T.vm := fun _ => rfl
    have ha := X.warmed.alike
    have hh := X.hears
    unfold State.hears at hh ⊢
    split at hh
    · rw [State.code?_eq] at hh ⊢
      rw [hv, ha.method?]
      exact hh
    · rfl
    · rfl
    · rw [hv, ha.method?]
      exact hh
  · obtain ⟨t, ht, -⟩ := State.frames_cons hfr
    obtain ⟨t2, ht2, -⟩ := State.frames_cons hF
    have h := (State.sameButNew.refl (T.setFrames (.invoking m args :: below)) ht2).setFrames T.frames (State.cur_lt_of_frames hF)
    rw [State.setFrames_setFrames, State.setFrames_self ht] at h
    exact h
set_option maxHeartbeats 1000000 in
/-- new X; dup; X.<init>(); athrow -/
theorem am_thr_new {G : am_G} {cl : List vw_C} {xn : Nat → String} {D : va_G} {cA : Nat → ClassId} {b0 b L : Nat} {xs : Nat → Int32} {h : am_H} {cc : ByteArray} {pc idx ic x mL : Nat} {ls : Array Slot} {st : List Value} {own : String} (htr : l.stackTraces = false) (hx : p.tables.exec = Jvm.exec) (hb : c.code = cc) (hml : c.maxLocals = mL) (hown : s.vm.findClass own = some m.cls)
    (hat : ∀ U : State, U.heap = H → s.WarmedH U.vm → (Cond.classLink own idx (xn x)).before args U = true ∧ (Cond.initialized (xn x)).before args U = true ∧ ∀ w ∈ Bundle.ownAtoms0 own ic (xn x) ["java/lang/RuntimeException", "java/lang/Exception"], w.before args U = true) (hfit : Bundle.fit (xn x) = true)
    (hd : decode cc pc = .ok (.new idx, 3)) (hd3 : decode cc (pc + 3) = .ok (.dup, 1)) (hd4 : decode cc (pc + 4) = .ok (.invokespecial ic, 3)) (hd7 : decode cc (pc + 7) = .ok (.athrow, 1)) (htab : c.exceptionTable.toList.map (fun h => (h.startPc, h.endPc, h.handlerPc, h.catchType)) = []) (hlk : meth.locks = false)
    (hcn : cells + 1 ≤ R.cells) (hun : slots + 6 ≤ R.slots) (hfr : 5 < R.frames) (hlo : am_w8 st + 81 ≤ R.locals) (hls : ls.size = mL) (hX : am_X G cl D cA b0 b L xs h H) (hS : va_S (fun q => b ≤ q) s.heap H locs) :
    W p l e R s m args below meth c H locs cells slots (am_MQ below (am_Qc G cl xn D cA b0 b L xs (.inr x) (am_setG h (am_g h + 1))) args s R.cells R.slots (fun q => b ≤ q)) (F0 m pc ls (st.map (am_tv b0 b))) := by
  intro T hT X
  have X9 := am_rebase X hcn hun
  obtain ⟨w1, w2, w3⟩ := hat (T.setFrames (.invoking m args :: below)) hT X.warmed
  have htr' : e.platform.stackTraces = false := by rw [X.admits.platform]; exact htr
  have hown9 : (T.setFrames (.invoking m args :: below)).vm.findClass own = some m.cls := by
    show T.vm.findClass own = some m.cls
    rw [X.warmed.alike.findClass]
    exact hown
  have hinst : (Cond.instantiable (xn x) 6).before args (T.setFrames (.invoking m args :: below)) = true := w3 _ (by simp [Bundle.ownAtoms0])
  obtain ⟨cX, kX0, hfX, hkX0, -⟩ := Cond.instantiable_spec hinst
  have hsz : H.size = b + (am_n h + am_g h) := by rw [hX.2.1]; omega
  have hout : ∀ y ∈ c.exceptionTable.toList, covers y (pc + 4 + 3) = false := by
    intro y hy
    have : c.exceptionTable.toList = [] := List.map_eq_nil_iff.mp htab
    rw [this] at hy
    cases hy
  have key : W p l e { frames := R.frames, cells := 1, slots := 6, locals := R.locals } (T.setFrames (.invoking m args :: below)) m args below meth c H [] 0 0 (fun U => U.status = .running ∧ Ended U below (.threw H.size) ∧ T.WarmedH U.vm ∧ (T.setFrames (.invoking m args :: below)).sameButNew ({ U with vm := T.vm } : State) [] 1 6 ∧ ∃ ce : Cell, U.heap[H.size]? = some ce ∧ ce.vm = .none ∧ T.vm.findClass (xn x) = some ce.cls) (F0 m pc ls (st.map (am_tv b0 b))) := by
    refine W.newcK (n := 6) hx hb hown9 w1 hinst w2 rfl hd (by show 0 + 1 ≤ 1; omega) (by show 0 + 6 ≤ 6; omega) hfX rfl fun H1 kX hkX e1 z1 o1 => ?_
    refine lv_dup (pc := pc + 3) hx hb hd3 rfl ?_
    intro T2 hT2 X2
    obtain ⟨U, hsteps, hrun, hend, hW, hsame, ce, hce, K⟩ := X2.ctorThrow0 hx htr' (own := own) (cls := xn x) (names := ["java/lang/RuntimeException", "java/lang/Exception"]) (ic := ic) hown9 hfit (by decide +kernel) w3 (fun y hy => by cases hy) hfX hkX (a := H.size) (by rw [hT2]; exact e1) (by show T.heap.size ≤ H.size; rw [hT]; exact Nat.le_refl _)
      (g := F0 m (pc + 4) ls (.ref H.size :: .ref H.size :: st.map (am_tv b0 b))) rfl (by rw [hml]; exact hls) rfl rfl (rest := st.map (am_tv b0 b)) rfl (by rw [hb]; exact hd4) (by rw [hb]; exact hd7) hout (by show 2 + 3 < R.frames; omega) (by
        show 2 * 0 + ((Value.ref H.size :: st.map (am_tv b0 b)).map fun v => v.category).sum + (13 * (2 + 1) + 41) ≤ R.locals
        have e9 : ((Value.ref H.size :: st.map (am_tv b0 b)).map fun v => v.category).sum = 1 + am_w8 st := by
          rw [List.map_cons, List.sum_cons, am_w8_map]
          rfl
        rw [e9]
        omega) hlk
    exact ⟨U, hsteps, hrun, hend, hW, hsame, ce, hce, K.vm, K.cls⟩
  obtain ⟨U, hst, h1, h2, h3, h4, ce, h5, h6, h7⟩ := key T hT X9
  have hold : ∀ q : Nat, q < H.size → U.heap[q]? = H[q]? := fun q hq => by
    obtain ⟨c9, hc9⟩ : ∃ c9, H[q]? = some c9 := ⟨H[q], Array.getElem?_eq_getElem hq⟩
    rw [hc9]
    exact h4.old_cell (a := q) (c := c9) (by show T.heap[q]? = some c9; rw [hT]; exact hc9)
  have hsz2 : U.heap.size = H.size + 1 := by
    have g1 : U.heap.size ≤ T.heap.size + 1 := h4.2.2.1
    have g2 := (Array.getElem?_eq_some_iff.mp h5).1
    rw [hT] at g1
    omega
  have hB : T.sameButNew (U.setVm T.vm) [] 1 6 := by
    obtain ⟨q1, q2⟩ := h4
    refine ⟨?_, q2⟩
    rw [State.setFrames_setFrames] at q1
    exact q1
  refine ⟨U, hst, .threw H.size, h1, h2, ⟨⟨ce, ?_, ?_, h6, ?_⟩, ⟨?_, ?_, ?_, ?_, ?_⟩, ?_, ?_⟩, locs ++ [], ⟨State.WarmedH.trans X.warmed h3, (X.same.trans (hB.setVm s.vm)).mono hcn hun⟩, fun q hq => ?_⟩
  · show Outcome.threw H.size = .threw (am_ad b0 b (am_n h + (am_g h + 1)))
    rw [hsz]
    rfl
  · show U.heap[am_ad b0 b (am_n h + (am_g h + 1))]? = some ce
    rw [show am_ad b0 b (am_n h + (am_g h + 1)) = b + (am_n h + am_g h) from rfl, ← hsz]
    exact h5
  · rw [h3.alike.findClass]
    exact h7
  · exact hX.1.kept (fun k q hk => hold q.1 ((hX.1 k q hk).lt))
  · rw [hsz2, hsz]
    show b + (am_n h + am_g h) + 1 = b + am_n h + (am_g h + 1)
    omega
  · exact hX.2.2.1
  · exact hX.2.2.2.1
  · intro q ce9 hb9 hc9
    by_cases hq : q < H.size
    · rw [hold q hq] at hc9
      exact hX.2.2.2.2 q ce9 hb9 hc9
    · have : q = H.size := by
        have := (Array.getElem?_eq_some_iff.mp hc9).1
        omega
      subst this
      cases h5.symm.trans hc9
      rw [h6]
      rfl
  · rw [hsz2]
    exact Nat.le_succ_of_le hS.1
  · intro q u1 u2
    rw [hold q (Nat.lt_of_lt_of_le u1 hS.1)]
    exact hS.2.1 q u1 u2
  · rw [List.append_nil] at hq
    exact hS.2.2 q hq
end AMT
