section
/-! A machine of our own over a heap of our own: what the bytecode does, said without the JVM's state. Part 10: its words. -/
/-- the static half of a heap: cell k is an object of class t (t < 100) with N fields, or an array (100 int, 101 boolean, 102 long, 103 and on: of references; 150: the script) of N places; where its references point; how many cells -/
abbrev am_S : Type := (Nat → Option (Nat × Nat)) × (Nat → Nat → Option Nat) × Nat
/-- static half, cells made and left behind, ints, longs -/
abbrev am_H : Type := am_S × Nat × (Nat → Nat → Int32) × (Nat → Nat → Int64)
abbrev am_sh (h : am_H) : Nat → Option (Nat × Nat) := h.1.1
abbrev am_P (h : am_H) : Nat → Nat → Option Nat := h.1.2.1
abbrev am_n (h : am_H) : Nat := h.1.2.2
abbrev am_g (h : am_H) : Nat := h.2.1
abbrev am_I (h : am_H) : Nat → Nat → Int32 := h.2.2.1
abbrev am_L (h : am_H) : Nat → Nat → Int64 := h.2.2.2
def am_u1 {α : Type} (f : Nat → α) (k : Nat) (x : α) : Nat → α := fun j => if j = k then x else f j
def am_u2 {α : Type} (f : Nat → Nat → α) (a k : Nat) (x : α) : Nat → Nat → α := fun b => if b = a then (fun j => if j = k then x else f a j) else f b
def am_setI (h : am_H) (I : Nat → Nat → Int32) : am_H := (h.1, h.2.1, I, h.2.2.2)
def am_setL (h : am_H) (L : Nat → Nat → Int64) : am_H := (h.1, h.2.1, h.2.2.1, L)
def am_setP (h : am_H) (P : Nat → Nat → Option Nat) : am_H := ((h.1.1, P, h.1.2.2), h.2)
def am_setG (h : am_H) (g : Nat) : am_H := (h.1, g, h.2.2)
/-- a new cell, number n + 1, all of it 0 and null -/
def am_add (h : am_H) (t N : Nat) : am_H := ((am_u1 h.1.1 (h.1.2.2 + 1) (some (t, N)), am_u1 h.1.2.1 (h.1.2.2 + 1) (fun _ => none), h.1.2.2 + 1), h.2.1, am_u1 h.2.2.1 (h.1.2.2 + 1) (fun _ => 0), am_u1 h.2.2.2 (h.1.2.2 + 1) (fun _ => 0))
/-- what a method ends with: an answer, or an exception of a class -/
abbrev am_O : Type := Option Value ⊕ Nat
/-- a method: name, code, locals, kind of answer, number of its class, how many parameters, cells and slots that it may make, its handlers (from, to, there, class) -/
abbrev am_M : Type := MethodName × ByteArray × Nat × Option FieldType × Nat × Nat × Nat × Nat × List (Nat × Nat × Nat × Nat)
abbrev am_y (M : am_M) : MethodName := M.1
abbrev am_b (M : am_M) : ByteArray := M.2.1
abbrev am_mL (M : am_M) : Nat := M.2.2.1
abbrev am_rt (M : am_M) : Option FieldType := M.2.2.2.1
abbrev am_o (M : am_M) : Nat := M.2.2.2.2.1
abbrev am_np (M : am_M) : Nat := M.2.2.2.2.2.1
abbrev am_mc (M : am_M) : Nat := M.2.2.2.2.2.2.1
abbrev am_ms (M : am_M) : Nat := M.2.2.2.2.2.2.2.1
abbrev am_hs (M : am_M) : List (Nat × Nat × Nat × Nat) := M.2.2.2.2.2.2.2.2
/-- a program: what a place of a class's pool is; its constants; its methods; of class c the field f: 0 int, 1 boolean, 2 reference (final: 10, 11, 12); of class c the number of fields; of an array of references the class of what it holds -/
abbrev am_G : Type := (Nat → Nat → Nat × Nat × Nat × Nat) × (Nat → Nat → Option Value) × (Nat → am_M) × (Nat → Nat → Nat) × (Nat → Nat) × (Nat → Nat)
abbrev am_pl (G : am_G) : Nat → Nat → Nat × Nat × Nat × Nat := G.1
abbrev am_kc (G : am_G) : Nat → Nat → Option Value := G.2.1
abbrev am_mt (G : am_G) : Nat → am_M := G.2.2.1
abbrev am_ft (G : am_G) : Nat → Nat → Nat := G.2.2.2.1
abbrev am_nf (G : am_G) : Nat → Nat := G.2.2.2.2.1
abbrev am_ac (G : am_G) : Nat → Nat := G.2.2.2.2.2
/-- locals: a list of (place, value) -/
def am_lk (al : List (Nat × Value)) (i : Nat) : Option Value := match al with
  | [] => none
  | q :: r => if q.1 = i then some q.2 else am_lk r i
def am_s1 (al : List (Nat × Value)) (i : Nat) (v : Value) : List (Nat × Value) := (i, v) :: al.filter (fun q => !(q.1 == i) && !(q.1 + 1 == i && q.2.category == 2))
def am_vi (o : Option Value) (f : Int32 → Prop) : Prop := match o with
  | some (.int x) => f x
  | _ => False
def am_vl (o : Option Value) (f : Int64 → Prop) : Prop := match o with
  | some (.long x) => f x
  | _ => False
def am_vr (o : Option Value) (f : Nat → Prop) : Prop := match o with
  | some (.ref x) => f x
  | _ => False
def am_so {α : Type} (o : Option α) (f : α → Prop) : Prop := match o with
  | some x => f x
  | none => False
def am_w8 (st : List Value) : Nat := (st.map fun v => v.category).sum
/-- what only moves the operand stack -/
def am_pure : Instr → List Value → Option (Nat × List Value)
  | .iconst n, st => some (1, .int (Int32.ofInt n) :: st)
  | .bipush n, st => some (2, .int (Int8.ofInt n).toInt32 :: st)
  | .sipush n, st => some (3, .int (Int16.ofInt n).toInt32 :: st)
  | .lconst n, st => some (1, .long (Int64.ofNat (n : Nat)) :: st)
  | .iadd, .int y :: .int x :: r => some (1, .int (x + y) :: r)
  | .isub, .int y :: .int x :: r => some (1, .int (x - y) :: r)
  | .imul, .int y :: .int x :: r => some (1, .int (x * y) :: r)
  | .iand, .int y :: .int x :: r => some (1, .int (x &&& y) :: r)
  | .ior, .int y :: .int x :: r => some (1, .int (x ||| y) :: r)
  | .ixor, .int y :: .int x :: r => some (1, .int (x ^^^ y) :: r)
  | .ishl, .int y :: .int x :: r => some (1, .int (x <<< (y &&& 31)) :: r)
  | .ishr, .int y :: .int x :: r => some (1, .int (x >>> (y &&& 31)) :: r)
  | .iushr, .int y :: .int x :: r => some (1, .int (x.toUInt32 >>> (y.toUInt32 &&& Int32.toUInt32 31)).toInt32 :: r)
  | .i2l, .int x :: r => some (1, .long x.toInt64 :: r)
  | .l2i, .long x :: r => some (1, .int x.toInt32 :: r)
  | .land, .long y :: .long x :: r => some (1, .long (x &&& y) :: r)
  | .lor, .long y :: .long x :: r => some (1, .long (x ||| y) :: r)
  | .lshl, .int y :: .long x :: r => some (1, .long (x <<< (y.toInt64 &&& 63)) :: r)
  | .lshr, .int y :: .long x :: r => some (1, .long (x >>> (y.toInt64 &&& 63)) :: r)
  | .lushr, .int y :: .long x :: r => some (1, .long (x.toUInt64 >>> (y.toInt64.toUInt64 &&& Int64.toUInt64 63)).toInt64 :: r)
  | .lcmp, .long y :: .long x :: r => some (1, .int (lg_cmp x y) :: r)
  | .dup, .int x :: r => some (1, .int x :: .int x :: r)
  | .dup, .ref x :: r => some (1, .ref x :: .ref x :: r)
  | .dup2, .int x :: .ref y :: r => some (1, .int x :: .ref y :: .int x :: .ref y :: r)
  | .pop, .int _ :: r => some (1, r)
  | .pop, .ref _ :: r => some (1, r)
  | _, _ => none
/-- a branch: is it taken, how far, what stays -/
def am_br : Instr → List Value → Option (Bool × Int × List Value)
  | .goto off, st => some (true, off, st)
  | .ifCond .eq off, .int x :: r => some (decide (x = 0), off, r)
  | .ifCond .ne off, .int x :: r => some (decide (¬ x = 0), off, r)
  | .ifCond .lt off, .int x :: r => some (decide (x < 0), off, r)
  | .ifCond .ge off, .int x :: r => some (decide (0 ≤ x), off, r)
  | .ifCond .gt off, .int x :: r => some (decide (0 < x), off, r)
  | .ifCond .le off, .int x :: r => some (decide (x ≤ 0), off, r)
  | .if_icmp .eq off, .int y :: .int x :: r => some (decide (x = y), off, r)
  | .if_icmp .ne off, .int y :: .int x :: r => some (decide (¬ x = y), off, r)
  | .if_icmp .lt off, .int y :: .int x :: r => some (decide (x < y), off, r)
  | .if_icmp .ge off, .int y :: .int x :: r => some (decide (y ≤ x), off, r)
  | .if_icmp .gt off, .int y :: .int x :: r => some (decide (y < x), off, r)
  | .if_icmp .le off, .int y :: .int x :: r => some (decide (x ≤ y), off, r)
  | _, _ => none
/-- the first handler over pc for class x; f: the class that a place of the pool names -/
def am_hf (f : Nat → Nat) (hs : List (Nat × Nat × Nat × Nat)) (pc x : Nat) : Option Nat := match hs with
  | [] => none
  | q :: r => if q.1 ≤ pc ∧ pc < q.2.1 ∧ f q.2.2.2 = x then some q.2.2.1 else am_hf f r pc x
/-- where a switch goes -/
def am_sw : Instr → List Value → Option (Int × List Value)
  | .tableswitch d lo hi offs, .int x :: r => if x.toInt < lo ∨ hi < x.toInt then some (d, r) else (offs[(x.toInt - lo).toNat]?).map (fun o => (o, r))
  | .lookupswitch d ps, .int x :: r => if (ps.toList.zip (ps.toList.drop 1)).all (fun (a, next) => a.1 < next.1) = true then some (Op.lookupswitch.offset ps.toList d x.toInt, r) else none
  | _, _ => none
def am_tg (pc : Nat) (off : Int) (f : Nat → Prop) : Prop := (pc : Int) + off = (((pc : Int) + off).toNat : Int) ∧ f ((pc : Int) + off).toNat
def am_sti (st : List Value) (f : Int32 → List Value → Prop) : Prop := match st with
  | .int x :: r => f x r
  | _ => False
def am_str (st : List Value) (f : Nat → List Value → Prop) : Prop := match st with
  | .ref x :: r => f x r
  | _ => False
def am_stv (st : List Value) (f : Value → Nat → List Value → Prop) : Prop := match st with
  | v :: .ref a :: r => f v a r
  | _ => False
def am_get (G : am_G) (M : am_M) (idx : Nat) (h : am_H) (a : Nat) (f : Value → Prop) : Prop := match am_pl G (am_o M) idx with
  | (1, ci, fi, 0) => am_sh h a = some (ci, am_nf G ci) ∧ fi < am_nf G ci ∧ (if am_ft G ci fi % 10 = 2 then am_so (am_P h a fi) (fun j => f (.ref j)) else f (.int (am_I h a fi)))
  | _ => False
def am_put (G : am_G) (M : am_M) (idx : Nat) (h : am_H) (a : Nat) (v : Value) (f : am_H → Prop) : Prop := match am_pl G (am_o M) idx with
  | (1, ci, fi, 0) => am_sh h a = some (ci, am_nf G ci) ∧ fi < am_nf G ci ∧ (am_ft G ci fi < 10 ∨ ((am_y M).name = "<init>" ∧ am_o M = ci)) ∧
    (match v with
    | .int x => (am_ft G ci fi % 10 = 0 ∨ (am_ft G ci fi % 10 = 1 ∧ (x = 0 ∨ x = 1))) ∧ f (am_setI h (am_u2 (am_I h) a fi x))
    | .ref j => am_ft G ci fi % 10 = 2 ∧ f (am_setP h (am_u2 (am_P h) a fi (some j)))
    | _ => False)
  | _ => False
/-- an array's place is read: i of a -/
def am_ald (G : am_G) (ins : Instr) (h : am_H) (i : Int32) (a : Nat) (f : Value → Prop) : Prop := am_so (am_sh h a) (fun q => vp_in i q.2 ∧ (match ins with
  | .iaload => (q.1 = 100 ∨ (q.1 = 150 ∧ a = 0)) ∧ f (.int (am_I h a i.toNatClampNeg))
  | .baload => q.1 = 101 ∧ f (.int (am_I h a i.toNatClampNeg))
  | .laload => q.1 = 102 ∧ f (.long (am_L h a i.toNatClampNeg))
  | .aaload => (q.1 = 103 ∨ q.1 = 104) ∧ am_so (am_P h a i.toNatClampNeg) (fun j => f (.ref j))
  | _ => False))
/-- an array's place is written: v to i of a -/
def am_ast (G : am_G) (ins : Instr) (h : am_H) (v : Value) (i : Int32) (a : Nat) (f : am_H → Prop) : Prop := am_so (am_sh h a) (fun q => vp_in i q.2 ∧ (match ins, v with
  | .iastore, .int x => q.1 = 100 ∧ f (am_setI h (am_u2 (am_I h) a i.toNatClampNeg x))
  | .bastore, .int x => q.1 = 101 ∧ f (am_setI h (am_u2 (am_I h) a i.toNatClampNeg (vp_nar .boolean x)))
  | .lastore, .long x => q.1 = 102 ∧ f (am_setL h (am_u2 (am_L h) a i.toNatClampNeg x))
  | .aastore, .ref j => (q.1 = 103 ∨ q.1 = 104) ∧ am_sh h j = some (am_ac G q.1, am_nf G (am_ac G q.1)) ∧ am_ac G q.1 < 100 ∧ f (am_setP h (am_u2 (am_P h) a i.toNatClampNeg (some j)))
  | _, _ => False))
/-- behind a call -/
def am_cont (G : am_G) (M : am_M) (k : Nat → List (Nat × Value) → List Value → am_H → Nat → Nat → Prop) (Q : am_O → am_H → Prop) (pc : Nat) (al : List (Nat × Value)) (rest : List Value) (c u : Nat) (o : am_O) (h : am_H) : Prop := match o with
  | .inl v => k (pc + 3) al (v.toList ++ rest) h c u
  | .inr x => match am_hf (fun i => (am_pl G (am_o M) i).2.1) (am_hs M) pc x with
    | some t => x < 4 ∧ k t al [.ref (am_n h + am_g h)] h c u
    | none => am_hs M = [] ∧ Q (.inr x) h
/-- a call of method j with the arguments as -/
def am_inv (C : Nat → List Value → am_H → am_O → am_H → Prop) (G : am_G) (M : am_M) (k : Nat → List (Nat × Value) → List Value → am_H → Nat → Nat → Prop) (Q : am_O → am_H → Prop) (j : Nat) (as : List Value) (pc : Nat) (al : List (Nat × Value)) (rest : List Value) (h : am_H) (c u : Nat) : Prop :=
  am_w8 rest ≤ 8 ∧ c + am_mc (am_mt G j) ≤ am_mc M ∧ u + am_ms (am_mt G j) ≤ am_ms M ∧ ∃ (o : am_O) (h' : am_H), C j as h o h' ∧ am_cont G M k Q pc al rest (c + am_mc (am_mt G j)) (u + am_ms (am_mt G j)) o h'
/-- System.arraycopy of ints -/
def am_cpy (h : am_H) (st : List Value) (f : am_H → List Value → Prop) : Prop := match st with
  | .int n :: .int dp :: .ref a1 :: .int sp :: .ref a0 :: r => ∃ n0 n1, am_sh h a0 = some (100, n0) ∧ am_sh h a1 = some (100, n1) ∧ ¬ sp < 0 ∧ ¬ dp < 0 ∧ ¬ n < 0 ∧ sp.toNatClampNeg + n.toNatClampNeg ≤ n0 ∧ dp.toNatClampNeg + n.toNatClampNeg ≤ n1 ∧ am_w8 r ≤ 8 ∧
    f (am_setI h (am_u1 (am_I h) a1 (va_cpy (am_I h a0) (am_I h a1) sp.toNatClampNeg dp.toNatClampNeg n.toNatClampNeg))) r
  | _ => False
def am_newa (M : am_M) (t : Nat) (n : Int32) (h : am_H) (c u : Nat) (f : am_H → Nat → Nat → Prop) : Prop :=
  ¬ n < 0 ∧ n.toNatClampNeg ≤ 10000 ∧ am_g h = 0 ∧ c + 1 ≤ am_mc M ∧ u + n.toNatClampNeg ≤ am_ms M ∧ f (am_add h t n.toNatClampNeg) (c + 1) (u + n.toNatClampNeg)
/-- an instruction that moves the operand stack alone, or the place -/
def am_dflt (k : Nat → List (Nat × Value) → List Value → am_H → Nat → Nat → Prop) (ins : Instr) (len pc : Nat) (al : List (Nat × Value)) (st : List Value) (h : am_H) (c u : Nat) : Prop := match am_pure ins st with
  | some q => len = q.1 ∧ k (pc + len) al q.2 h c u
  | none => (match am_br ins st with
    | some q => len = 3 ∧ am_tg pc q.2.1 (fun t => if q.1 = true then k t al q.2.2 h c u else k (pc + 3) al q.2.2 h c u)
    | none => (match am_sw ins st with
      | some q => am_tg pc q.1 (fun t => k t al q.2 h c u)
      | none => False))
/-- one instruction: what must hold so that the rest k, or the end Q, is reached -/
def am_do (C : Nat → List Value → am_H → am_O → am_H → Prop) (G : am_G) (M : am_M) (k : Nat → List (Nat × Value) → List Value → am_H → Nat → Nat → Prop) (Q : am_O → am_H → Prop) (ins : Instr) (len pc : Nat) (al : List (Nat × Value)) (st : List Value) (h : am_H) (c u : Nat) : Prop :=
  match ins with
  | .iload_n i => len = 1 ∧ am_vi (am_lk al i) (fun x => k (pc + 1) al (.int x :: st) h c u)
  | .iload i => len = 2 ∧ am_vi (am_lk al i) (fun x => k (pc + 2) al (.int x :: st) h c u)
  | .lload_n i => len = 1 ∧ am_vl (am_lk al i) (fun x => k (pc + 1) al (.long x :: st) h c u)
  | .lload i => len = 2 ∧ am_vl (am_lk al i) (fun x => k (pc + 2) al (.long x :: st) h c u)
  | .aload_n i => len = 1 ∧ am_vr (am_lk al i) (fun x => k (pc + 1) al (.ref x :: st) h c u)
  | .aload i => len = 2 ∧ am_vr (am_lk al i) (fun x => k (pc + 2) al (.ref x :: st) h c u)
  | .istore_n i => len = 1 ∧ (i : Nat) < am_mL M ∧ am_sti st (fun x r => k (pc + 1) (am_s1 al i (.int x)) r h c u)
  | .istore i => len = 2 ∧ i < am_mL M ∧ am_sti st (fun x r => k (pc + 2) (am_s1 al i (.int x)) r h c u)
  | .astore_n i => len = 1 ∧ (i : Nat) < am_mL M ∧ am_str st (fun x r => k (pc + 1) (am_s1 al i (.ref x)) r h c u)
  | .astore i => len = 2 ∧ i < am_mL M ∧ am_str st (fun x r => k (pc + 2) (am_s1 al i (.ref x)) r h c u)
  | .iinc i n => len = 3 ∧ i < am_mL M ∧ am_vi (am_lk al i) (fun x => k (pc + 3) (am_s1 al i (.int (x + Int32.ofInt n))) st h c u)
  | .irem => len = 1 ∧ (match st with
    | .int y :: .int x :: r => ¬ y = 0 ∧ k (pc + 1) al (.int (x - x / y * y) :: r) h c u
    | _ => False)
  | .ldc i => len = 2 ∧ am_vi (am_kc G (am_o M) i) (fun x => k (pc + 2) al (.int x :: st) h c u)
  | .ldc_w i => len = 3 ∧ am_vi (am_kc G (am_o M) i) (fun x => k (pc + 3) al (.int x :: st) h c u)
  | .ldc2_w i => len = 3 ∧ am_vl (am_kc G (am_o M) i) (fun x => k (pc + 3) al (.long x :: st) h c u)
  | .getfield i => len = 3 ∧ am_str st (fun a r => am_get G M i h a (fun v => k (pc + 3) al (v :: r) h c u))
  | .putfield i => len = 3 ∧ am_stv st (fun v a r => am_put G M i h a v (fun h' => k (pc + 3) al r h' c u))
  | .iaload => len = 1 ∧ am_sti st (fun i r => am_str r (fun a r => am_ald G .iaload h i a (fun v => k (pc + 1) al (v :: r) h c u)))
  | .baload => len = 1 ∧ am_sti st (fun i r => am_str r (fun a r => am_ald G .baload h i a (fun v => k (pc + 1) al (v :: r) h c u)))
  | .laload => len = 1 ∧ am_sti st (fun i r => am_str r (fun a r => am_ald G .laload h i a (fun v => k (pc + 1) al (v :: r) h c u)))
  | .aaload => len = 1 ∧ am_sti st (fun i r => am_str r (fun a r => am_ald G .aaload h i a (fun v => k (pc + 1) al (v :: r) h c u)))
  | .iastore => len = 1 ∧ (match st with
    | v :: r => am_sti r (fun i r => am_str r (fun a r => am_ast G .iastore h v i a (fun h' => k (pc + 1) al r h' c u)))
    | _ => False)
  | .bastore => len = 1 ∧ (match st with
    | v :: r => am_sti r (fun i r => am_str r (fun a r => am_ast G .bastore h v i a (fun h' => k (pc + 1) al r h' c u)))
    | _ => False)
  | .lastore => len = 1 ∧ (match st with
    | v :: r => am_sti r (fun i r => am_str r (fun a r => am_ast G .lastore h v i a (fun h' => k (pc + 1) al r h' c u)))
    | _ => False)
  | .aastore => len = 1 ∧ (match st with
    | v :: r => am_sti r (fun i r => am_str r (fun a r => am_ast G .aastore h v i a (fun h' => k (pc + 1) al r h' c u)))
    | _ => False)
  | .arraylength => len = 1 ∧ am_str st (fun a r => am_so (am_sh h a) (fun q => (100 ≤ q.1 ∧ q.1 ≤ 104 ∨ (q.1 = 150 ∧ a = 0)) ∧ k (pc + 1) al (.int (Int32.ofNat q.2) :: r) h c u))
  | .new i => len = 3 ∧ (match am_pl G (am_o M) i with
    | (3, ci, _, _) => am_g h = 0 ∧ c + 1 ≤ am_mc M ∧ u + am_nf G ci ≤ am_ms M ∧ ci < 100 ∧ k (pc + 3) al (.ref (am_n h + 1) :: st) (am_add h ci (am_nf G ci)) (c + 1) (u + am_nf G ci)
    | (5, x, ic, _) => am_hs M = [] ∧ c + 1 ≤ am_mc M ∧ u + 6 ≤ am_ms M ∧ am_w8 st ≤ 8 ∧ decode (am_b M) (pc + 3) = .ok (.dup, 1) ∧ decode (am_b M) (pc + 4) = .ok (.invokespecial ic, 3) ∧ decode (am_b M) (pc + 7) = .ok (.athrow, 1) ∧ Q (.inr x) (am_setG h (am_g h + 1))
    | _ => False)
  | .newarray ty => len = 2 ∧ am_sti st (fun n r => (match ty with
    | .int => am_newa M 100 n h c u (fun h' c' u' => k (pc + 2) al (.ref (am_n h + 1) :: r) h' c' u')
    | .boolean => am_newa M 101 n h c u (fun h' c' u' => k (pc + 2) al (.ref (am_n h + 1) :: r) h' c' u')
    | .long => am_newa M 102 n h c u (fun h' c' u' => k (pc + 2) al (.ref (am_n h + 1) :: r) h' c' u')
    | _ => False))
  | .anewarray i => len = 3 ∧ am_sti st (fun n r => (match am_pl G (am_o M) i with
    | (3, _, t, _) => (t = 103 ∨ t = 104) ∧ am_newa M t n h c u (fun h' c' u' => k (pc + 3) al (.ref (am_n h + 1) :: r) h' c' u')
    | _ => False))
  | .invokestatic i => len = 3 ∧ (match am_pl G (am_o M) i with
    | (2, j, 1, _) => am_np (am_mt G j) ≤ st.length ∧ am_inv C G M k Q j (st.take (am_np (am_mt G j))).reverse pc al (st.drop (am_np (am_mt G j))) h c u
    | (2, j, 4, _) => am_np (am_mt G j) ≤ st.length ∧ am_inv C G M k Q j (st.take (am_np (am_mt G j))).reverse pc al (st.drop (am_np (am_mt G j))) h c u
    | (8, _, _, _) => am_cpy h st (fun h' r => k (pc + 3) al r h' c u)
    | (10, _, _, _) => am_sti st (fun y r => am_sti r (fun x r => am_w8 r ≤ 8 ∧ k (pc + 3) al (.int (if y < x then y else x) :: r) h c u))
    | (11, _, _, _) => am_sti st (fun y r => am_sti r (fun x r => am_w8 r ≤ 8 ∧ k (pc + 3) al (.int (if x < y then y else x) :: r) h c u))
    | _ => False)
  | .invokevirtual i => len = 3 ∧ (match am_pl G (am_o M) i with
    | (2, j, 0, _) => am_np (am_mt G j) ≤ st.length ∧ am_str (st.drop (am_np (am_mt G j))) (fun b r => am_sh h b = some (am_o (am_mt G j), am_nf G (am_o (am_mt G j))) ∧ am_inv C G M k Q j (.ref b :: (st.take (am_np (am_mt G j))).reverse) pc al r h c u)
    | (2, j, 3, _) => am_np (am_mt G j) ≤ st.length ∧ am_str (st.drop (am_np (am_mt G j))) (fun b r => am_sh h b = some (am_o (am_mt G j), am_nf G (am_o (am_mt G j))) ∧ am_inv C G M k Q j (.ref b :: (st.take (am_np (am_mt G j))).reverse) pc al r h c u)
    | _ => False)
  | .invokespecial i => len = 3 ∧ (match am_pl G (am_o M) i with
    | (2, j, 2, _) => am_np (am_mt G j) ≤ st.length ∧ am_str (st.drop (am_np (am_mt G j))) (fun b r => am_inv C G M k Q j (.ref b :: (st.take (am_np (am_mt G j))).reverse) pc al r h c u)
    | (7, _, _, _) => am_str st (fun _ r => am_w8 r ≤ 8 ∧ k (pc + 3) al r h c u)
    | _ => False)
  | .ireturn => len = 1 ∧ (match st with
    | [.int x] => (match am_rt M with
      | some .int => Q (.inl (some (.int x))) h
      | some .boolean => (x = 0 ∨ x = 1) ∧ Q (.inl (some (.int x))) h
      | _ => False)
    | _ => False)
  | .areturn => len = 1 ∧ (match st with
    | [.ref a] => (match am_rt M with
      | some (.object _) => Q (.inl (some (.ref a))) h
      | _ => False)
    | _ => False)
  | .return_ => len = 1 ∧ (match st with
    | [] => am_rt M = none ∧ Q (.inl none) h
    | _ => False)
  | _ => am_dflt k ins len pc al st h c u
/-- the instructions that am_dflt is for -/
def am_isd : Instr → Bool
  | .iload_n _ => false
  | .iload _ => false
  | .lload_n _ => false
  | .lload _ => false
  | .aload_n _ => false
  | .aload _ => false
  | .istore_n _ => false
  | .istore _ => false
  | .astore_n _ => false
  | .astore _ => false
  | .ldc _ => false
  | .ldc_w _ => false
  | .ldc2_w _ => false
  | .getfield _ => false
  | .putfield _ => false
  | .new _ => false
  | .newarray _ => false
  | .anewarray _ => false
  | .invokestatic _ => false
  | .invokevirtual _ => false
  | .invokespecial _ => false
  | .iinc _ _ => false
  | .irem => false
  | .iaload => false
  | .baload => false
  | .laload => false
  | .aaload => false
  | .iastore => false
  | .bastore => false
  | .lastore => false
  | .aastore => false
  | .arraylength => false
  | .ireturn => false
  | .areturn => false
  | .return_ => false
  | _ => true
theorem am_do_d {C : Nat → List Value → am_H → am_O → am_H → Prop} {G : am_G} {M : am_M} {k : Nat → List (Nat × Value) → List Value → am_H → Nat → Nat → Prop} {Q : am_O → am_H → Prop} {ins : Instr} (hd : am_isd ins = true) {len pc : Nat} {al : List (Nat × Value)} {st : List Value} {h : am_H} {c u : Nat} : am_do C G M k Q ins len pc al st h c u = am_dflt k ins len pc al st h c u := by
  cases ins <;> first | rfl | cases hd
def am_step (C : Nat → List Value → am_H → am_O → am_H → Prop) (G : am_G) (M : am_M) (k : Nat → List (Nat × Value) → List Value → am_H → Nat → Nat → Prop) (Q : am_O → am_H → Prop) (pc : Nat) (al : List (Nat × Value)) (st : List Value) (h : am_H) (c u : Nat) : Prop :=
  match decode (am_b M) pc with
  | .ok q => am_do C G M k Q q.1 q.2 pc al st h c u
  | .error _ => False
/-- from here the method comes to an end with Q: whatever is closed under steps backwards holds here -/
def am_T (C : Nat → List Value → am_H → am_O → am_H → Prop) (G : am_G) (M : am_M) (Q : am_O → am_H → Prop) (pc : Nat) (al : List (Nat × Value)) (st : List Value) (h : am_H) (c u : Nat) : Prop :=
  ∀ K : Nat → List (Nat × Value) → List Value → am_H → Nat → Nat → Prop, (∀ pc al st h c u, am_step C G M K Q pc al st h c u → K pc al st h c u) → K pc al st h c u
/-- method j at as in h ends with o in h', by calls at most d deep -/
def am_C (G : am_G) : Nat → Nat → List Value → am_H → am_O → am_H → Prop
  | 0 => fun _ _ _ _ _ => False
  | d + 1 => fun j as h o h' => am_w8 as ≤ am_mL (am_mt G j) ∧ (∀ x, o = .inr x → 5 < d + 1) ∧ am_T (am_C G d) G (am_mt G j) (fun o1 h1 => o1 = o ∧ h1 = h') 0 (lv_args 0 as) [] h 0 0
end
section
/-! Part 11: a step of the machine goes on at one place, or ends once -/
theorem am_vi_s {o : Option Value} {f : Int32 → Prop} (h : am_vi o f) : ∃ x, o = some (.int x) ∧ f x := by
  cases o with
  | none => exact h.elim
  | some v => cases v <;> first | exact ⟨_, rfl, h⟩ | exact h.elim
theorem am_vl_s {o : Option Value} {f : Int64 → Prop} (h : am_vl o f) : ∃ x, o = some (.long x) ∧ f x := by
  cases o with
  | none => exact h.elim
  | some v => cases v <;> first | exact ⟨_, rfl, h⟩ | exact h.elim
theorem am_vr_s {o : Option Value} {f : Nat → Prop} (h : am_vr o f) : ∃ x, o = some (.ref x) ∧ f x := by
  cases o with
  | none => exact h.elim
  | some v => cases v <;> first | exact ⟨_, rfl, h⟩ | exact h.elim
theorem am_so_s {α : Type} {o : Option α} {f : α → Prop} (h : am_so o f) : ∃ x, o = some x ∧ f x := by
  cases o with
  | none => exact h.elim
  | some v => exact ⟨_, rfl, h⟩
theorem am_sti_s {st : List Value} {f : Int32 → List Value → Prop} (h : am_sti st f) : ∃ x r, st = .int x :: r ∧ f x r := by
  cases st with
  | nil => exact h.elim
  | cons v r => cases v <;> first | exact ⟨_, _, rfl, h⟩ | exact h.elim
theorem am_str_s {st : List Value} {f : Nat → List Value → Prop} (h : am_str st f) : ∃ x r, st = .ref x :: r ∧ f x r := by
  cases st with
  | nil => exact h.elim
  | cons v r => cases v <;> first | exact ⟨_, _, rfl, h⟩ | exact h.elim
theorem am_stv_s {st : List Value} {f : Value → Nat → List Value → Prop} (h : am_stv st f) : ∃ v a r, st = v :: .ref a :: r ∧ f v a r := by
  cases st with
  | nil => exact h.elim
  | cons v r =>
    cases r with
    | nil => cases v <;> exact h.elim
    | cons w r => cases w <;> first | exact ⟨_, _, _, rfl, h⟩ | (cases v <;> exact h.elim)
/-- one use of what comes next -/
def am_One (P : (Nat → List (Nat × Value) → List Value → am_H → Nat → Nat → Prop) → (am_O → am_H → Prop) → Prop) (K : Nat → List (Nat × Value) → List Value → am_H → Nat → Nat → Prop) (Q : am_O → am_H → Prop) : Prop :=
  (∃ pc al st h c u, K pc al st h c u ∧ ∀ K' Q', K' pc al st h c u → P K' Q') ∨ (∃ o h, Q o h ∧ ∀ K' Q', Q' o h → P K' Q')
theorem am_One_k {P : (Nat → List (Nat × Value) → List Value → am_H → Nat → Nat → Prop) → (am_O → am_H → Prop) → Prop} {K : Nat → List (Nat × Value) → List Value → am_H → Nat → Nat → Prop} {Q : am_O → am_H → Prop} {pc : Nat} {al : List (Nat × Value)} {st : List Value} {h : am_H} {c u : Nat} (hk : K pc al st h c u) (hp : ∀ K' Q', K' pc al st h c u → P K' Q') : am_One P K Q := Or.inl ⟨pc, al, st, h, c, u, hk, hp⟩
theorem am_One_q {P : (Nat → List (Nat × Value) → List Value → am_H → Nat → Nat → Prop) → (am_O → am_H → Prop) → Prop} {K : Nat → List (Nat × Value) → List Value → am_H → Nat → Nat → Prop} {Q : am_O → am_H → Prop} {o : am_O} {h : am_H} (hk : Q o h) (hp : ∀ K' Q', Q' o h → P K' Q') : am_One P K Q := Or.inr ⟨o, h, hk, hp⟩
section AMO
variable {C C2 : Nat → List Value → am_H → am_O → am_H → Prop} {G : am_G} {M : am_M} {K : Nat → List (Nat × Value) → List Value → am_H → Nat → Nat → Prop} {Q : am_O → am_H → Prop}
theorem am_one_dflt {ins : Instr} {len pc c u : Nat} {al : List (Nat × Value)} {st : List Value} {h : am_H} (hh : am_dflt K ins len pc al st h c u) : am_One (fun K' _ => am_dflt K' ins len pc al st h c u) K Q := by
  unfold am_dflt at hh
  split at hh
  · rename_i q hq
    exact am_One_k hh.2 (fun K' Q' h' => by unfold am_dflt; rw [hq]; exact ⟨hh.1, h'⟩)
  · rename_i hp
    split at hh
    · rename_i q hq
      obtain ⟨h1, h2, h3⟩ := hh
      by_cases hb : q.1 = true
      · rw [if_pos hb] at h3
        exact am_One_k h3 (fun K' Q' h' => by unfold am_dflt; rw [hp, hq]; exact ⟨h1, h2, by dsimp only; rw [if_pos hb]; exact h'⟩)
      · rw [if_neg hb] at h3
        exact am_One_k h3 (fun K' Q' h' => by unfold am_dflt; rw [hp, hq]; exact ⟨h1, h2, by dsimp only; rw [if_neg hb]; exact h'⟩)
    · rename_i hb
      split at hh
      · rename_i q hq
        exact am_One_k hh.2 (fun K' Q' h' => by unfold am_dflt; rw [hp, hb, hq]; exact ⟨hh.1, h'⟩)
      · exact hh.elim
theorem am_one_inv (hCC : ∀ j as h o h', C j as h o h' → C2 j as h o h') {j : Nat} {as : List Value} {pc : Nat} {al : List (Nat × Value)} {rest : List Value} {h : am_H} {c u : Nat} (hh : am_inv C G M K Q j as pc al rest h c u) : am_One (fun K' Q' => am_inv C2 G M K' Q' j as pc al rest h c u) K Q := by
  obtain ⟨h1, h2, h3, o, h', h4, h5⟩ := hh
  have h4 := hCC _ _ _ _ _ h4
  cases o with
  | inl v => exact am_One_k h5 (fun K' Q' h9 => ⟨h1, h2, h3, _, _, h4, h9⟩)
  | inr x =>
    unfold am_cont at h5
    simp only at h5
    split at h5
    · rename_i t ht
      exact am_One_k h5.2 (fun K' Q' h9 => ⟨h1, h2, h3, _, _, h4, by unfold am_cont; simp only; rw [ht]; exact ⟨h5.1, h9⟩⟩)
    · rename_i ht
      exact am_One_q h5.2 (fun K' Q' h9 => ⟨h1, h2, h3, _, _, h4, by unfold am_cont; simp only; rw [ht]; exact ⟨h5.1, h9⟩⟩)
set_option maxHeartbeats 4000000 in
theorem am_one_do (hCC : ∀ j as h o h', C j as h o h' → C2 j as h o h') {ins : Instr} {len pc c u : Nat} {al : List (Nat × Value)} {st : List Value} {h : am_H} (hh : am_do C G M K Q ins len pc al st h c u) : am_One (fun K' Q' => am_do C2 G M K' Q' ins len pc al st h c u) K Q := by
  cases ins with
  | iload_n i =>
    obtain ⟨h0, hh⟩ := hh
    obtain ⟨x, h1, h2⟩ := am_vi_s hh
    exact am_One_k h2 (fun K' Q' h9 => ⟨h0, by rw [h1]; exact h9⟩)
  | iload i =>
    obtain ⟨h0, hh⟩ := hh
    obtain ⟨x, h1, h2⟩ := am_vi_s hh
    exact am_One_k h2 (fun K' Q' h9 => ⟨h0, by rw [h1]; exact h9⟩)
  | lload_n i =>
    obtain ⟨h0, hh⟩ := hh
    obtain ⟨x, h1, h2⟩ := am_vl_s hh
    exact am_One_k h2 (fun K' Q' h9 => ⟨h0, by rw [h1]; exact h9⟩)
  | lload i =>
    obtain ⟨h0, hh⟩ := hh
    obtain ⟨x, h1, h2⟩ := am_vl_s hh
    exact am_One_k h2 (fun K' Q' h9 => ⟨h0, by rw [h1]; exact h9⟩)
  | aload_n i =>
    obtain ⟨h0, hh⟩ := hh
    obtain ⟨x, h1, h2⟩ := am_vr_s hh
    exact am_One_k h2 (fun K' Q' h9 => ⟨h0, by rw [h1]; exact h9⟩)
  | aload i =>
    obtain ⟨h0, hh⟩ := hh
    obtain ⟨x, h1, h2⟩ := am_vr_s hh
    exact am_One_k h2 (fun K' Q' h9 => ⟨h0, by rw [h1]; exact h9⟩)
  | istore_n i =>
    obtain ⟨h0, hi, hh⟩ := hh
    obtain ⟨x, r, rfl, h2⟩ := am_sti_s hh
    exact am_One_k h2 (fun K' Q' h9 => ⟨h0, hi, h9⟩)
  | istore i =>
    obtain ⟨h0, hi, hh⟩ := hh
    obtain ⟨x, r, rfl, h2⟩ := am_sti_s hh
    exact am_One_k h2 (fun K' Q' h9 => ⟨h0, hi, h9⟩)
  | astore_n i =>
    obtain ⟨h0, hi, hh⟩ := hh
    obtain ⟨x, r, rfl, h2⟩ := am_str_s hh
    exact am_One_k h2 (fun K' Q' h9 => ⟨h0, hi, h9⟩)
  | astore i =>
    obtain ⟨h0, hi, hh⟩ := hh
    obtain ⟨x, r, rfl, h2⟩ := am_str_s hh
    exact am_One_k h2 (fun K' Q' h9 => ⟨h0, hi, h9⟩)
  | iinc i n =>
    obtain ⟨h0, hi, hh⟩ := hh
    obtain ⟨x, h1, h2⟩ := am_vi_s hh
    exact am_One_k h2 (fun K' Q' h9 => ⟨h0, hi, by rw [h1]; exact h9⟩)
  | irem =>
    obtain ⟨h0, hh⟩ := hh
    split at hh
    · exact am_One_k hh.2 (fun K' Q' h9 => ⟨h0, hh.1, h9⟩)
    · exact hh.elim
  | ldc i =>
    obtain ⟨h0, hh⟩ := hh
    obtain ⟨x, h1, h2⟩ := am_vi_s hh
    exact am_One_k h2 (fun K' Q' h9 => ⟨h0, by rw [h1]; exact h9⟩)
  | ldc_w i =>
    obtain ⟨h0, hh⟩ := hh
    obtain ⟨x, h1, h2⟩ := am_vi_s hh
    exact am_One_k h2 (fun K' Q' h9 => ⟨h0, by rw [h1]; exact h9⟩)
  | ldc2_w i =>
    obtain ⟨h0, hh⟩ := hh
    obtain ⟨x, h1, h2⟩ := am_vl_s hh
    exact am_One_k h2 (fun K' Q' h9 => ⟨h0, by rw [h1]; exact h9⟩)
  | getfield i =>
    obtain ⟨h0, hh⟩ := hh
    obtain ⟨a, r, rfl, hh⟩ := am_str_s hh
    unfold am_get at hh
    split at hh
    · rename_i ci fi hpl
      obtain ⟨h1, h2, hh⟩ := hh
      by_cases h9 : am_ft G ci fi % 10 = 2
      · rw [if_pos h9] at hh
        obtain ⟨j, hj, hh⟩ := am_so_s hh
        exact am_One_k hh (fun K' Q' h8 => ⟨h0, by simp only [am_str]; unfold am_get; rw [hpl]; exact ⟨h1, h2, by rw [if_pos h9, hj]; exact h8⟩⟩)
      · rw [if_neg h9] at hh
        exact am_One_k hh (fun K' Q' h8 => ⟨h0, by simp only [am_str]; unfold am_get; rw [hpl]; exact ⟨h1, h2, by rw [if_neg h9]; exact h8⟩⟩)
    · exact hh.elim
  | putfield i =>
    obtain ⟨h0, hh⟩ := hh
    obtain ⟨v, a, r, rfl, hh⟩ := am_stv_s hh
    unfold am_put at hh
    split at hh
    · rename_i ci fi hpl
      obtain ⟨h1, h2, h3, hh⟩ := hh
      split at hh
      · exact am_One_k hh.2 (fun K' Q' h8 => ⟨h0, by simp only [am_stv]; unfold am_put; rw [hpl]; exact ⟨h1, h2, h3, hh.1, h8⟩⟩)
      · exact am_One_k hh.2 (fun K' Q' h8 => ⟨h0, by simp only [am_stv]; unfold am_put; rw [hpl]; exact ⟨h1, h2, h3, hh.1, h8⟩⟩)
      · exact hh.elim
    · exact hh.elim
  | iaload =>
    obtain ⟨h0, hh⟩ := hh
    obtain ⟨i, r, rfl, hh⟩ := am_sti_s hh
    obtain ⟨a, r, rfl, hh⟩ := am_str_s hh
    obtain ⟨q, hs, h1, h2, hh⟩ := am_so_s hh
    exact am_One_k hh (fun K' Q' h8 => ⟨h0, by simp only [am_sti, am_str, am_ald, hs]; exact ⟨h1, h2, h8⟩⟩)
  | baload =>
    obtain ⟨h0, hh⟩ := hh
    obtain ⟨i, r, rfl, hh⟩ := am_sti_s hh
    obtain ⟨a, r, rfl, hh⟩ := am_str_s hh
    obtain ⟨q, hs, h1, h2, hh⟩ := am_so_s hh
    exact am_One_k hh (fun K' Q' h8 => ⟨h0, by simp only [am_sti, am_str, am_ald, hs]; exact ⟨h1, h2, h8⟩⟩)
  | laload =>
    obtain ⟨h0, hh⟩ := hh
    obtain ⟨i, r, rfl, hh⟩ := am_sti_s hh
    obtain ⟨a, r, rfl, hh⟩ := am_str_s hh
    obtain ⟨q, hs, h1, h2, hh⟩ := am_so_s hh
    exact am_One_k hh (fun K' Q' h8 => ⟨h0, by simp only [am_sti, am_str, am_ald, hs]; exact ⟨h1, h2, h8⟩⟩)
  | aaload =>
    obtain ⟨h0, hh⟩ := hh
    obtain ⟨i, r, rfl, hh⟩ := am_sti_s hh
    obtain ⟨a, r, rfl, hh⟩ := am_str_s hh
    obtain ⟨q, hs, h1, h2, hh⟩ := am_so_s hh
    obtain ⟨j, hj, hh⟩ := am_so_s hh
    exact am_One_k hh (fun K' Q' h8 => ⟨h0, by simp only [am_sti, am_str, am_ald, hs]; exact ⟨h1, h2, by rw [hj]; exact h8⟩⟩)
  | iastore =>
    obtain ⟨h0, hh⟩ := hh
    cases st with
    | nil => exact hh.elim
    | cons v r =>
      obtain ⟨i, r, rfl, hh⟩ := am_sti_s hh
      obtain ⟨a, r, rfl, hh⟩ := am_str_s hh
      obtain ⟨q, hs, h1, hh⟩ := am_so_s hh
      cases v with
      | int x =>
        obtain ⟨h2, hh⟩ := hh
        exact am_One_k hh (fun K' Q' h8 => ⟨h0, by simp only [am_sti, am_str, am_ast, hs]; exact ⟨h1, h2, h8⟩⟩)
      | _ => exact hh.elim
  | bastore =>
    obtain ⟨h0, hh⟩ := hh
    cases st with
    | nil => exact hh.elim
    | cons v r =>
      obtain ⟨i, r, rfl, hh⟩ := am_sti_s hh
      obtain ⟨a, r, rfl, hh⟩ := am_str_s hh
      obtain ⟨q, hs, h1, hh⟩ := am_so_s hh
      cases v with
      | int x =>
        obtain ⟨h2, hh⟩ := hh
        exact am_One_k hh (fun K' Q' h8 => ⟨h0, by simp only [am_sti, am_str, am_ast, hs]; exact ⟨h1, h2, h8⟩⟩)
      | _ => exact hh.elim
  | lastore =>
    obtain ⟨h0, hh⟩ := hh
    cases st with
    | nil => exact hh.elim
    | cons v r =>
      obtain ⟨i, r, rfl, hh⟩ := am_sti_s hh
      obtain ⟨a, r, rfl, hh⟩ := am_str_s hh
      obtain ⟨q, hs, h1, hh⟩ := am_so_s hh
      cases v with
      | long x =>
        obtain ⟨h2, hh⟩ := hh
        exact am_One_k hh (fun K' Q' h8 => ⟨h0, by simp only [am_sti, am_str, am_ast, hs]; exact ⟨h1, h2, h8⟩⟩)
      | _ => exact hh.elim
  | aastore =>
    obtain ⟨h0, hh⟩ := hh
    cases st with
    | nil => exact hh.elim
    | cons v r =>
      obtain ⟨i, r, rfl, hh⟩ := am_sti_s hh
      obtain ⟨a, r, rfl, hh⟩ := am_str_s hh
      obtain ⟨q, hs, h1, hh⟩ := am_so_s hh
      cases v with
      | ref x =>
        obtain ⟨h2, h3, h4, hh⟩ := hh
        exact am_One_k hh (fun K' Q' h8 => ⟨h0, by simp only [am_sti, am_str, am_ast, hs]; exact ⟨h1, h2, h3, h4, h8⟩⟩)
      | _ => exact hh.elim
  | arraylength =>
    obtain ⟨h0, hh⟩ := hh
    obtain ⟨a, r, rfl, hh⟩ := am_str_s hh
    obtain ⟨q, hq, h1, hh⟩ := am_so_s hh
    exact am_One_k hh (fun K' Q' h8 => ⟨h0, by simp only [am_str]; rw [hq]; exact ⟨h1, h8⟩⟩)
  | new i =>
    obtain ⟨h0, hh⟩ := hh
    split at hh
    · rename_i ci z1 z2 hpl
      obtain ⟨h1, h2, h3, h4, hh⟩ := hh
      exact am_One_k hh (fun K' Q' h8 => ⟨h0, by rw [hpl]; exact ⟨h1, h2, h3, h4, h8⟩⟩)
    · rename_i x ic z hpl
      obtain ⟨h1, h2, h3, h4, h5, h6, h7, hh⟩ := hh
      exact am_One_q hh (fun K' Q' h8 => ⟨h0, by rw [hpl]; exact ⟨h1, h2, h3, h4, h5, h6, h7, h8⟩⟩)
    · exact hh.elim
  | newarray ty =>
    obtain ⟨h0, hh⟩ := hh
    obtain ⟨n, r, rfl, hh⟩ := am_sti_s hh
    cases ty with
    | int =>
      obtain ⟨h1, h2, h3, h4, h5, hh⟩ := hh
      exact am_One_k hh (fun K' Q' h8 => ⟨h0, h1, h2, h3, h4, h5, h8⟩)
    | boolean =>
      obtain ⟨h1, h2, h3, h4, h5, hh⟩ := hh
      exact am_One_k hh (fun K' Q' h8 => ⟨h0, h1, h2, h3, h4, h5, h8⟩)
    | long =>
      obtain ⟨h1, h2, h3, h4, h5, hh⟩ := hh
      exact am_One_k hh (fun K' Q' h8 => ⟨h0, h1, h2, h3, h4, h5, h8⟩)
    | _ => exact hh.elim
  | anewarray i =>
    obtain ⟨h0, hh⟩ := hh
    obtain ⟨n, r, rfl, hh⟩ := am_sti_s hh
    split at hh
    · rename_i z1 t z2 hpl
      obtain ⟨h6, h1, h2, h3, h4, h5, hh⟩ := hh
      exact am_One_k hh (fun K' Q' h8 => ⟨h0, by simp only [am_sti]; rw [hpl]; exact ⟨h6, h1, h2, h3, h4, h5, h8⟩⟩)
    · exact hh.elim
  | invokestatic i =>
    obtain ⟨h0, hh⟩ := hh
    split at hh
    · rename_i j z1 hpl
      obtain ⟨h1, hh⟩ := hh
      rcases am_one_inv hCC hh with ⟨a1, a2, a3, a4, a5, a6, a7, a8⟩ | ⟨a1, a2, a7, a8⟩
      · exact am_One_k a7 (fun K' Q' h8 => ⟨h0, by rw [hpl]; exact ⟨h1, a8 K' Q' h8⟩⟩)
      · exact am_One_q a7 (fun K' Q' h8 => ⟨h0, by rw [hpl]; exact ⟨h1, a8 K' Q' h8⟩⟩)
    · rename_i j z1 hpl
      obtain ⟨h1, hh⟩ := hh
      rcases am_one_inv hCC hh with ⟨a1, a2, a3, a4, a5, a6, a7, a8⟩ | ⟨a1, a2, a7, a8⟩
      · exact am_One_k a7 (fun K' Q' h8 => ⟨h0, by rw [hpl]; exact ⟨h1, a8 K' Q' h8⟩⟩)
      · exact am_One_q a7 (fun K' Q' h8 => ⟨h0, by rw [hpl]; exact ⟨h1, a8 K' Q' h8⟩⟩)
    · rename_i z1 z2 z3 hpl
      unfold am_cpy at hh
      split at hh
      · obtain ⟨n0, n1, g1, g2, g3, g4, g5, g6, g7, g8, hh⟩ := hh
        exact am_One_k hh (fun K' Q' h8 => ⟨h0, by rw [hpl]; exact ⟨n0, n1, g1, g2, g3, g4, g5, g6, g7, g8, h8⟩⟩)
      · exact hh.elim
    · rename_i z1 z2 z3 hpl
      obtain ⟨y, r, rfl, hh2⟩ := am_sti_s hh
      obtain ⟨x, r2, rfl, h1, hh3⟩ := am_sti_s hh2
      exact am_One_k hh3 (fun K' Q' h8 => ⟨h0, by rw [hpl]; exact ⟨h1, h8⟩⟩)
    · rename_i z1 z2 z3 hpl
      obtain ⟨y, r, rfl, hh2⟩ := am_sti_s hh
      obtain ⟨x, r2, rfl, h1, hh3⟩ := am_sti_s hh2
      exact am_One_k hh3 (fun K' Q' h8 => ⟨h0, by rw [hpl]; exact ⟨h1, h8⟩⟩)
    · exact hh.elim
  | invokevirtual i =>
    obtain ⟨h0, hh⟩ := hh
    split at hh
    · rename_i j z1 hpl
      obtain ⟨h1, hh⟩ := hh
      obtain ⟨bb, r, hdr, h2, hh⟩ := am_str_s hh
      rcases am_one_inv hCC hh with ⟨a1, a2, a3, a4, a5, a6, a7, a8⟩ | ⟨a1, a2, a7, a8⟩
      · exact am_One_k a7 (fun K' Q' h8 => ⟨h0, by rw [hpl]; exact ⟨h1, by rw [hdr]; exact ⟨h2, a8 K' Q' h8⟩⟩⟩)
      · exact am_One_q a7 (fun K' Q' h8 => ⟨h0, by rw [hpl]; exact ⟨h1, by rw [hdr]; exact ⟨h2, a8 K' Q' h8⟩⟩⟩)
    · rename_i j z1 hpl
      obtain ⟨h1, hh⟩ := hh
      obtain ⟨bb, r, hdr, h2, hh⟩ := am_str_s hh
      rcases am_one_inv hCC hh with ⟨a1, a2, a3, a4, a5, a6, a7, a8⟩ | ⟨a1, a2, a7, a8⟩
      · exact am_One_k a7 (fun K' Q' h8 => ⟨h0, by rw [hpl]; exact ⟨h1, by rw [hdr]; exact ⟨h2, a8 K' Q' h8⟩⟩⟩)
      · exact am_One_q a7 (fun K' Q' h8 => ⟨h0, by rw [hpl]; exact ⟨h1, by rw [hdr]; exact ⟨h2, a8 K' Q' h8⟩⟩⟩)
    · exact hh.elim
  | invokespecial i =>
    obtain ⟨h0, hh⟩ := hh
    split at hh
    · rename_i j z1 hpl
      obtain ⟨h1, hh⟩ := hh
      obtain ⟨bb, r, hdr, hh⟩ := am_str_s hh
      rcases am_one_inv hCC hh with ⟨a1, a2, a3, a4, a5, a6, a7, a8⟩ | ⟨a1, a2, a7, a8⟩
      · exact am_One_k a7 (fun K' Q' h8 => ⟨h0, by rw [hpl]; exact ⟨h1, by rw [hdr]; exact a8 K' Q' h8⟩⟩)
      · exact am_One_q a7 (fun K' Q' h8 => ⟨h0, by rw [hpl]; exact ⟨h1, by rw [hdr]; exact a8 K' Q' h8⟩⟩)
    · rename_i z1 z2 z3 hpl
      obtain ⟨a, r, rfl, h1, hh⟩ := am_str_s hh
      exact am_One_k hh (fun K' Q' h8 => ⟨h0, by rw [hpl]; exact ⟨h1, h8⟩⟩)
    · exact hh.elim
  | ireturn =>
    obtain ⟨h0, hh⟩ := hh
    split at hh
    · split at hh
      · rename_i hrt
        exact am_One_q hh (fun K' Q' h8 => ⟨h0, by simp only; rw [hrt]; exact h8⟩)
      · rename_i hrt
        exact am_One_q hh.2 (fun K' Q' h8 => ⟨h0, by simp only; rw [hrt]; exact ⟨hh.1, h8⟩⟩)
      · exact hh.elim
    · exact hh.elim
  | areturn =>
    obtain ⟨h0, hh⟩ := hh
    split at hh
    · split at hh
      · rename_i nm hrt
        exact am_One_q hh (fun K' Q' h8 => ⟨h0, by simp only; rw [hrt]; exact h8⟩)
      · exact hh.elim
    · exact hh.elim
  | return_ =>
    obtain ⟨h0, hh⟩ := hh
    split at hh
    · exact am_One_q hh.2 (fun K' Q' h8 => ⟨h0, hh.1, h8⟩)
    · exact hh.elim
  | _ =>
    rw [am_do_d rfl] at hh
    rcases am_one_dflt (Q := Q) hh with ⟨a1, a2, a3, a4, a5, a6, a7, a8⟩ | ⟨a1, a2, a7, a8⟩
    · exact am_One_k a7 (fun K' Q' h8 => by rw [am_do_d rfl]; exact a8 K' Q' h8)
    · exact am_One_q a7 (fun K' Q' h8 => by rw [am_do_d rfl]; exact a8 K' Q' h8)
theorem am_one_step (hCC : ∀ j as h o h', C j as h o h' → C2 j as h o h') {pc c u : Nat} {al : List (Nat × Value)} {st : List Value} {h : am_H} (hh : am_step C G M K Q pc al st h c u) : am_One (fun K' Q' => am_step C2 G M K' Q' pc al st h c u) K Q := by
  unfold am_step at hh
  split at hh
  · rename_i q hq
    rcases am_one_do hCC hh with ⟨a1, a2, a3, a4, a5, a6, a7, a8⟩ | ⟨a1, a2, a7, a8⟩
    · exact am_One_k a7 (fun K' Q' h8 => by unfold am_step; rw [hq]; exact a8 K' Q' h8)
    · exact am_One_q a7 (fun K' Q' h8 => by unfold am_step; rw [hq]; exact a8 K' Q' h8)
  · exact hh.elim
/-- a step taken -/
theorem am_T_step {pc c u : Nat} {al : List (Nat × Value)} {st : List Value} {h : am_H} (hh : am_step C G M (am_T C G M Q) Q pc al st h c u) : am_T C G M Q pc al st h c u := by
  intro K hK
  refine hK _ _ _ _ _ _ ?_
  rcases am_one_step (C2 := C) (fun _ _ _ _ _ q => q) hh with ⟨a1, a2, a3, a4, a5, a6, a7, a8⟩ | ⟨a1, a2, a7, a8⟩
  · exact a8 K Q (a7 K hK)
  · exact a8 K Q a7
/-- another end, deeper calls -/
theorem am_T_mono (hCC : ∀ j as h o h', C j as h o h' → C2 j as h o h') {Q2 : am_O → am_H → Prop} (hQ : ∀ o h, Q o h → Q2 o h) {pc c u : Nat} {al : List (Nat × Value)} {st : List Value} {h : am_H} (hh : am_T C G M Q pc al st h c u) : am_T C2 G M Q2 pc al st h c u := by
  refine hh (am_T C2 G M Q2) (fun pc al st h c u hs => am_T_step ?_)
  rcases am_one_step hCC hs with ⟨a1, a2, a3, a4, a5, a6, a7, a8⟩ | ⟨a1, a2, a7, a8⟩
  · exact a8 _ _ a7
  · exact a8 _ _ (hQ _ _ a7)
/-- an end that is known by Q is one end -/
theorem am_T_ex {pc c u : Nat} {al : List (Nat × Value)} {st : List Value} {h : am_H} (hh : am_T C G M Q pc al st h c u) : ∃ o h', Q o h' ∧ am_T C G M (fun o1 h1 => o1 = o ∧ h1 = h') pc al st h c u := by
  refine hh (fun pc al st h c u => ∃ o h', Q o h' ∧ am_T C G M (fun o1 h1 => o1 = o ∧ h1 = h') pc al st h c u) (fun pc al st h c u hs => ?_)
  rcases am_one_step (C2 := C) (fun _ _ _ _ _ q => q) hs with ⟨a1, a2, a3, a4, a5, a6, ⟨o, h', g1, g2⟩, a8⟩ | ⟨o, h', a7, a8⟩
  · exact ⟨o, h', g1, am_T_step (a8 _ _ g2)⟩
  · exact ⟨o, h', a7, am_T_step (a8 _ _ ⟨rfl, rfl⟩)⟩
end AMO
theorem am_C_up (G : am_G) : ∀ (d j : Nat) (as : List Value) (h : am_H) (o : am_O) (h' : am_H), am_C G d j as h o h' → am_C G (d + 1) j as h o h' := by
  intro d
  induction d with
  | zero => exact fun _ _ _ _ _ q => q.elim
  | succ d ih =>
    intro j as h o h' q
    exact ⟨q.1, fun x hx => Nat.lt_succ_of_lt (q.2.1 x hx), am_T_mono ih (fun _ _ z => z) q.2.2⟩
/-- method j at as in h ends with Q, by calls at most d deep -/
def am_m (G : am_G) (d j : Nat) (as : List Value) (h : am_H) (Q : am_O → am_H → Prop) : Prop := ∃ o h', am_C G d j as h o h' ∧ Q o h'
theorem am_m_of {G : am_G} {d j : Nat} {as : List Value} {h : am_H} {Q : am_O → am_H → Prop} (h8 : am_w8 as ≤ am_mL (am_mt G j)) (hv : 5 < d + 1 ∨ ∀ o h', Q o h' → ∃ v, o = .inl v) (hh : am_T (am_C G d) G (am_mt G j) Q 0 (lv_args 0 as) [] h 0 0) : am_m G (d + 1) j as h Q := by
  obtain ⟨o, h', g1, g2⟩ := am_T_ex hh
  refine ⟨o, h', ⟨h8, fun x hx => ?_, g2⟩, g1⟩
  rcases hv with hv | hv
  · exact hv
  · obtain ⟨v, hv⟩ := hv o h' g1
    rw [hv] at hx
    cases hx
theorem am_m_up {G : am_G} {d d2 j : Nat} {as : List Value} {h : am_H} {Q Q2 : am_O → am_H → Prop} (hd : d ≤ d2) (hQ : ∀ o h', Q o h' → Q2 o h') (hh : am_m G d j as h Q) : am_m G d2 j as h Q2 := by
  obtain ⟨o, h', g1, g2⟩ := hh
  obtain ⟨k, rfl⟩ : ∃ k, d2 = d + k := ⟨d2 - d, by omega⟩
  clear hd
  refine ⟨o, h', ?_, hQ _ _ g2⟩
  clear g2 hQ
  induction k with
  | zero => exact g1
  | succ k ih => exact am_C_up G _ _ _ _ _ _ ih
end
section
/-! Part 20: the machine of part 10 and the JVM: the picture of a heap, and rows of loads, stores, branches. -/
/-- where cell k lies: the script is cell 0 -/
def am_ad (b0 b : Nat) : Nat → Nat
  | 0 => b0
  | k + 1 => b + k
def am_tv (b0 b : Nat) (v : Value) : Value := match v with
  | .ref k => .ref (am_ad b0 b k)
  | w => w
theorem am_tv_cat (b0 b : Nat) (v : Value) : (am_tv b0 b v).category = v.category := by
  cases v <;> rfl
def am_tl (b0 b : Nat) (al : List (Nat × Value)) : List (Nat × Value) := al.map (fun q => (q.1, am_tv b0 b q.2))
theorem am_tl_filter (b0 b : Nat) (i : Nat) (al : List (Nat × Value)) : (am_tl b0 b al).filter (fun q => !(q.1 == i) && !(q.1 + 1 == i && q.2.category == 2)) = am_tl b0 b (al.filter (fun q => !(q.1 == i) && !(q.1 + 1 == i && q.2.category == 2))) := by
  unfold am_tl
  rw [List.filter_map]
  congr 1
  apply List.filter_congr
  intro q _
  simp [Function.comp, am_tv_cat]
theorem am_lk_mem {al : List (Nat × Value)} {i : Nat} {v : Value} (h : am_lk al i = some v) : (i, v) ∈ al := by
  induction al with
  | nil => simp [am_lk] at h
  | cons q r ih =>
    unfold am_lk at h
    by_cases e : q.1 = i
    · rw [if_pos e] at h
      cases h
      rw [← e]
      exact List.mem_cons_self
    · rw [if_neg e] at h
      exact List.mem_cons_of_mem _ (ih h)
theorem am_lk_at {ls : Array Slot} {nL b0 b : Nat} {al : List (Nat × Value)} (hl : lv_has ls nL (am_tl b0 b al)) {i : Nat} {v : Value} (h : am_lk al i = some v) : ls[i]? = some (.val (am_tv b0 b v)) :=
  hl.2.2 (i, am_tv b0 b v) (List.mem_map.mpr ⟨(i, v), am_lk_mem h, rfl⟩)
theorem am_args_map (b0 b : Nat) : ∀ (vs : List Value) (i : Nat), lv_args i (vs.map (am_tv b0 b)) = am_tl b0 b (lv_args i vs)
  | [], _ => rfl
  | v :: vs, i => by
    show (i, am_tv b0 b v) :: lv_args (if (am_tv b0 b v).category = 2 then i + 2 else i + 1) (vs.map (am_tv b0 b)) = (i, am_tv b0 b v) :: am_tl b0 b (lv_args (if v.category = 2 then i + 2 else i + 1) vs)
    rw [am_tv_cat, am_args_map b0 b vs]
theorem am_w8_map (b0 b : Nat) (st : List Value) : ((st.map (am_tv b0 b)).map fun v => v.category).sum = am_w8 st := by
  unfold am_w8
  rw [List.map_map]
  congr 1
  apply List.map_congr_left
  intro v _
  exact am_tv_cat b0 b v
/-- the picture of a cell -/
def am_ce (G : am_G) (b0 b : Nat) (cA : Nat → ClassId) (h : am_H) (a : Nat) : va_E := match am_sh h a with
  | some (t, N) =>
    if t < 100 then .inr (t, (List.range N).map (fun j => if am_ft G t j % 10 = 2 then va_rf ((am_P h a j).map (am_ad b0 b)) else .int (am_I h a j)))
    else if t < 102 then .inl (cA t, N, .inl (am_I h a))
    else if t = 102 then .inl (cA t, N, .inr (.inl (am_L h a)))
    else .inl (cA t, N, .inr (.inr (.inr (.inr (fun j => (am_P h a j).map (am_ad b0 b))))))
  | none => .inr (0, [])
def am_wl (G : am_G) (b0 b : Nat) (cA : Nat → ClassId) (h : am_H) : va_W := (List.range (am_n h)).map (fun k => (b + k, am_ce G b0 b cA h (k + 1)))
theorem am_wl_at {G : am_G} {b0 b : Nat} {cA : Nat → ClassId} {h : am_H} {a : Nat} (h0 : a ≠ 0) (hn : a ≤ am_n h) : (am_wl G b0 b cA h)[a - 1]? = some (am_ad b0 b a, am_ce G b0 b cA h a) := by
  obtain ⟨k, rfl⟩ : ∃ k, a = k + 1 := ⟨a - 1, by omega⟩
  unfold am_wl
  rw [List.getElem?_map, List.getElem?_range (by omega)]
  rfl
theorem am_wl_D {G : am_G} {b0 b : Nat} {cA : Nat → ClassId} {h : am_H} : va_D (fun q => b ≤ q) (am_wl G b0 b cA h) := by
  have key : ∀ (i : Nat) (p : Nat × va_E), (am_wl G b0 b cA h)[i]? = some p → p.1 = b + i := by
    intro i p hp
    unfold am_wl at hp
    rw [List.getElem?_map] at hp
    cases hr : (List.range (am_n h))[i]? with
    | none => rw [hr] at hp; cases hp
    | some z =>
      rw [hr] at hp
      have hz : z = i := by
        have := List.getElem?_eq_some_iff.mp hr
        obtain ⟨h1, h2⟩ := this
        rw [List.getElem_range] at h2
        exact h2.symm
      cases hp
      simp [hz]
  refine ⟨fun i j p q hi hj e => ?_, fun k q hk => ?_⟩
  · have h1 := key i p hi
    have h2 := key j q hj
    omega
  · have h1 := key k q hk
    show b ≤ q.1
    omega
/-- one cell changes -/
theorem am_wl_set {G : am_G} {b0 b : Nat} {cA : Nat → ClassId} {h h' : am_H} {a : Nat} {e : va_E} (h0 : a ≠ 0) (hn : am_n h' = am_n h) (he : am_ce G b0 b cA h' a = e) (ho : ∀ x, x ≠ a → am_ce G b0 b cA h' x = am_ce G b0 b cA h x) : (am_wl G b0 b cA h).set (a - 1) (am_ad b0 b a, e) = am_wl G b0 b cA h' := by
  obtain ⟨k, rfl⟩ : ∃ k, a = k + 1 := ⟨a - 1, by omega⟩
  apply List.ext_getElem?
  intro i
  unfold am_wl
  rw [List.getElem?_set, List.getElem?_map, List.getElem?_map, hn]
  simp only [List.length_map, List.length_range, Nat.add_sub_cancel]
  by_cases hi : k = i
  · subst hi
    rw [if_pos rfl]
    by_cases hl : k < am_n h
    · rw [if_pos hl, List.getElem?_range hl, Option.map_some, ← he]
      rfl
    · rw [if_neg hl, List.getElem?_eq_none (by simpa using hl)]
      rfl
  · rw [if_neg hi]
    by_cases hl : i < am_n h
    · rw [List.getElem?_range hl, Option.map_some, Option.map_some, ho (i + 1) (by omega)]
    · rw [List.getElem?_eq_none (by simpa using hl)]
      rfl
/-- a cell comes -/
theorem am_wl_add {G : am_G} {b0 b : Nat} {cA : Nat → ClassId} {h h' : am_H} {e : va_E} (hn : am_n h' = am_n h + 1) (he : am_ce G b0 b cA h' (am_n h + 1) = e) (ho : ∀ x, x ≤ am_n h → am_ce G b0 b cA h' x = am_ce G b0 b cA h x) : am_wl G b0 b cA h ++ [(b + am_n h, e)] = am_wl G b0 b cA h' := by
  unfold am_wl
  rw [hn, List.range_succ, List.map_append, ← he]
  congr 1
  apply List.map_congr_left
  intro k hk
  rw [ho (k + 1) (by have := List.mem_range.mp hk; omega)]
/-- the heap H holds the picture h: its cells from b on, one behind the other -/
def am_X (G : am_G) (cl : List vw_C) (D : va_G) (cA : Nat → ClassId) (b0 b L : Nat) (xs : Nat → Int32) (h : am_H) (H : Heap) : Prop :=
  va_P D cl (am_wl G b0 b cA h) H ∧ H.size = b + am_n h + am_g h ∧ (∀ a q, am_sh h a = some q → a ≤ am_n h ∧ (a = 0 → q = (150, L))) ∧ am_I h 0 = xs ∧ ∀ (q : Nat) (ce : Cell), b ≤ q → H[q]? = some ce → ce.vm.isStatics = false
def am_tys (cl : List vw_C) (G : am_G) (own : Nat → String) (cA : Nat → ClassId) : List (ClassId × FieldType) := [(cA 100, .int), (cA 101, .boolean), (cA 102, .long), (cA 103, .object (own (am_ac G 103))), (cA 104, .object (own (am_ac G 104)))]
/-- what the tables say, and the script -/
def am_Y (G : am_G) (cl : List vw_C) (own : Nat → String) (D : va_G) (cA : Nat → ClassId) (b0 b L : Nat) (xs : Nat → Int32) (U : State) : Prop :=
  va_K D cl (am_tys cl G own cA) U ∧ b0 < b ∧ b ≤ U.heap.size ∧ va_X b0 L xs U U.heap ∧ ∀ (q : Nat) (ce : Cell), b ≤ q → U.heap[q]? = some ce → ce.vm.isStatics = false
/-- a class of the program -/
def am_ok (G : am_G) (cl : List vw_C) (own : Nat → String) (WS : List Cond) (ci : Nat) : Prop :=
  ∃ (T : u_T) (ty : Nat → FieldType), cl[ci]? = some (own ci, T, am_nf G ci) ∧ ci < 100 ∧ (∀ w ∈ u_ws (own ci) T (am_nf G ci), w ∈ WS) ∧ (∀ k, k < am_nf G ci → parseFieldDescriptor (T k).2.2.1 = some (ty k)) ∧
    (∀ a, a < am_nf G ci → ∀ b, b < am_nf G ci → a ≠ b → (T a).2.1 ≠ (T b).2.1) ∧ (∀ k, k < am_nf G ci → (T k).1 = own ci) ∧
    (∀ k, k < am_nf G ci → (am_ft G ci k % 10 = 0 ∧ ty k = .int) ∨ (am_ft G ci k % 10 = 1 ∧ ty k = .boolean) ∨ (am_ft G ci k % 10 = 2 ∧ ((∃ n, ty k = .object n) ∨ ∃ t, ty k = .array t))) ∧
    (∀ k, k < am_nf G ci → (T k).2.2.2 = decide (10 ≤ am_ft G ci k)) ∧
    (∀ o idx fi, am_pl G o idx = (1, ci, fi, 0) → fi < am_nf G ci → Cond.fieldLink (own o) idx (own ci) (T fi).2.1 (T fi).2.2.1 ∈ WS)
section AMW
variable {p : Program} {l : Launch} {e : Env} {R : Room} {s : State} {m : MethodId} {args : Array Value} {below : List Frame} {meth : Method} {c : Code} {H : Heap} {locs : List Loc} {cells slots : Nat} {Q : State → Prop}
variable {cc : ByteArray} {pc len : Nat} {ls : Array Slot} {b0 b : Nat}
theorem am_mono {Q2 : State → Prop} {g : JFrame} (hq : ∀ t, Q t → Q2 t) (w : W p l e R s m args below meth c H locs cells slots Q g) : W p l e R s m args below meth c H locs cells slots Q2 g := fun T hT X => by
  obtain ⟨t, h1, h2⟩ := w T hT X
  exact ⟨t, h1, hq t h2⟩
/-- what only moves the operand stack -/
theorem am_r_pure (hx : p.tables.exec = Jvm.exec) (hb : c.code = cc) {ins : Instr} {st : List Value} {q : Nat × List Value} (hp : am_pure ins st = some q) (hd : decode cc pc = .ok (ins, len)) (hlen : len = q.1)
    (k : W p l e R s m args below meth c H locs cells slots Q (F0 m (pc + len) ls (q.2.map (am_tv b0 b)))) : W p l e R s m args below meth c H locs cells slots Q (F0 m pc ls (st.map (am_tv b0 b))) := by
  unfold am_pure at hp
  split at hp <;> cases hp <;> dsimp only at hlen k <;> subst hlen
  · exact lv_iconst hx hb hd rfl k
  · exact lv_bipush hx hb hd rfl k
  · exact lv_sipush hx hb hd rfl k
  · exact lv_lconst hx hb hd rfl k
  · exact lv_iadd hx hb hd k
  · exact lv_isub hx hb hd k
  · exact lv_imul hx hb hd k
  · exact lv_iand hx hb hd k
  · exact lv_ior hx hb hd k
  · exact lv_ixor hx hb hd k
  · exact lv_ishl hx hb hd k
  · exact lv_ishr hx hb hd k
  · exact lv_iushr hx hb hd rfl k
  · exact lv_i2l hx hb hd rfl k
  · exact lv_l2i hx hb hd rfl k
  · exact lv_land hx hb hd k
  · exact lv_lor hx hb hd k
  · exact lv_lshl hx hb hd rfl k
  · exact lv_lshr hx hb hd rfl k
  · exact lv_lushr hx hb hd rfl k
  · exact W.lcmp hx hb hd k
  · exact lv_dup hx hb hd rfl k
  · exact lv_dup hx hb hd rfl k
  · exact lv_dup2_11 hx hb hd rfl rfl k
  · exact lv_pop hx hb hd rfl k
  · exact lv_pop hx hb hd rfl k
/-- branches -/
theorem am_r_br (hx : p.tables.exec = Jvm.exec) (hb : c.code = cc) {ins : Instr} {st : List Value} {q : Bool × Int × List Value} (hp : am_br ins st = some q) (hd : decode cc pc = .ok (ins, 3)) {t : Nat} (ht : (pc : Int) + q.2.1 = (t : Int))
    (kt : q.1 = true → W p l e R s m args below meth c H locs cells slots Q (F0 m t ls (q.2.2.map (am_tv b0 b))))
    (kf : q.1 = false → W p l e R s m args below meth c H locs cells slots Q (F0 m (pc + 3) ls (q.2.2.map (am_tv b0 b)))) : W p l e R s m args below meth c H locs cells slots Q (F0 m pc ls (st.map (am_tv b0 b))) := by
  unfold am_br at hp
  split at hp <;> cases hp <;> dsimp only at ht kt kf
  · exact lv_goto hx hb hd ht (kt rfl)
  · exact lv_if_eq hx hb hd ht (fun z => kt (decide_eq_true z)) (fun z => kf (decide_eq_false z))
  · exact lv_if_ne hx hb hd ht (fun z => kt (decide_eq_true z)) (fun z => kf (decide_eq_false (fun w => w z)))
  · exact lv_if_lt hx hb hd ht (fun z => kt (decide_eq_true z)) (fun z => kf (decide_eq_false z))
  · exact lv_if_ge hx hb hd ht (fun z => kt (decide_eq_true z)) (fun z => kf (decide_eq_false z))
  · exact lv_if_gt hx hb hd ht (fun z => kt (decide_eq_true z)) (fun z => kf (decide_eq_false z))
  · exact lv_if_le hx hb hd ht (fun z => kt (decide_eq_true z)) (fun z => kf (decide_eq_false z))
  · exact lv_icmp_eq hx hb hd ht (fun z => kt (decide_eq_true z)) (fun z => kf (decide_eq_false z))
  · exact lv_icmp_ne hx hb hd ht (fun z => kt (decide_eq_true z)) (fun z => kf (decide_eq_false (fun w => w z)))
  · exact lv_icmp_lt hx hb hd ht (fun z => kt (decide_eq_true z)) (fun z => kf (decide_eq_false z))
  · exact lv_icmp_ge hx hb hd ht (fun z => kt (decide_eq_true z)) (fun z => kf (decide_eq_false z))
  · exact lv_icmp_gt hx hb hd ht (fun z => kt (decide_eq_true z)) (fun z => kf (decide_eq_false z))
  · exact lv_icmp_le hx hb hd ht (fun z => kt (decide_eq_true z)) (fun z => kf (decide_eq_false z))
/-- switches -/
theorem am_r_sw (hx : p.tables.exec = Jvm.exec) (hb : c.code = cc) {ins : Instr} {st : List Value} {q : Int × List Value} (hp : am_sw ins st = some q) (hd : decode cc pc = .ok (ins, len)) {t : Nat} (ht : (pc : Int) + q.1 = (t : Int))
    (k : W p l e R s m args below meth c H locs cells slots Q (F0 m t ls (q.2.map (am_tv b0 b)))) : W p l e R s m args below meth c H locs cells slots Q (F0 m pc ls (st.map (am_tv b0 b))) := by
  unfold am_sw at hp
  split at hp
  · rename_i d lo hi offs x r
    by_cases h1 : x.toInt < lo ∨ hi < x.toInt
    · rw [if_pos h1] at hp
      cases hp
      exact lv_tableOut hx hb hd h1 ht k
    · rw [if_neg h1] at hp
      cases ho : offs[(x.toInt - lo).toNat]? with
      | none => rw [ho] at hp; cases hp
      | some o =>
        rw [ho] at hp
        cases hp
        exact lv_tableIn hx hb hd (fun z => h1 (Or.inl z)) (fun z => h1 (Or.inr z)) ho ht k
  · rename_i d ps x r
    split at hp
    · rename_i h1
      cases hp
      exact lv_lookup hx hb hd h1 rfl ht k
    · cases hp
  · cases hp
end AMW
end
section
/-! Part 21: rows of fields and arrays -/
theorem am_u1_eq {α : Type} (f : Nat → α) (k : Nat) (x : α) : am_u1 f k x k = x := if_pos rfl
theorem am_u1_ne {α : Type} (f : Nat → α) {k j : Nat} (x : α) (h : j ≠ k) : am_u1 f k x j = f j := if_neg h
theorem am_u2_eq {α : Type} (f : Nat → Nat → α) (a k : Nat) (x : α) : am_u2 f a k x a = fun j => if j = k then x else f a j := if_pos rfl
theorem am_u2_ne {α : Type} (f : Nat → Nat → α) {a b : Nat} (k : Nat) (x : α) (h : b ≠ a) : am_u2 f a k x b = f b := if_neg h
theorem am_ce_eq {G : am_G} {b0 b : Nat} {cA : Nat → ClassId} {h h' : am_H} {x : Nat} (h1 : am_sh h' x = am_sh h x) (h2 : am_P h' x = am_P h x) (h3 : am_I h' x = am_I h x) (h4 : am_L h' x = am_L h x) : am_ce G b0 b cA h' x = am_ce G b0 b cA h x := by
  unfold am_ce
  rw [h1, h2, h3, h4]
theorem am_ce_o {G : am_G} {b0 b : Nat} {cA : Nat → ClassId} {h : am_H} {a t N : Nat} (hs : am_sh h a = some (t, N)) (ht : t < 100) : am_ce G b0 b cA h a = .inr (t, (List.range N).map (fun j => if am_ft G t j % 10 = 2 then va_rf ((am_P h a j).map (am_ad b0 b)) else .int (am_I h a j))) := by
  unfold am_ce
  rw [hs]
  exact if_pos ht
theorem am_ce_i {G : am_G} {b0 b : Nat} {cA : Nat → ClassId} {h : am_H} {a t N : Nat} (hs : am_sh h a = some (t, N)) (h1 : ¬ t < 100) (h2 : t < 102) : am_ce G b0 b cA h a = .inl (cA t, N, .inl (am_I h a)) := by
  unfold am_ce
  rw [hs]
  exact (if_neg h1).trans (if_pos h2)
theorem am_ce_l {G : am_G} {b0 b : Nat} {cA : Nat → ClassId} {h : am_H} {a N : Nat} (hs : am_sh h a = some (102, N)) : am_ce G b0 b cA h a = .inl (cA 102, N, .inr (.inl (am_L h a))) := by
  unfold am_ce
  rw [hs]
  rfl
theorem am_ce_q {G : am_G} {b0 b : Nat} {cA : Nat → ClassId} {h : am_H} {a t N : Nat} (hs : am_sh h a = some (t, N)) (h1 : 102 < t) : am_ce G b0 b cA h a = .inl (cA t, N, .inr (.inr (.inr (.inr (fun j => (am_P h a j).map (am_ad b0 b)))))) := by
  unfold am_ce
  rw [hs]
  exact (if_neg (by omega)).trans ((if_neg (by omega)).trans (if_neg (by omega)))
theorem am_rset {α : Type} {N i : Nat} {f f' : Nat → α} {v : α} (h1 : ∀ j, j ≠ i → f' j = f j) (h2 : f' i = v) : ((List.range N).map f).set i v = (List.range N).map f' := by
  apply List.ext_getElem?
  intro j
  rw [List.getElem?_set, List.getElem?_map, List.getElem?_map]
  simp only [List.length_map, List.length_range]
  by_cases e : i = j
  · subst e
    rw [if_pos rfl]
    by_cases hl : i < N
    · rw [if_pos hl, List.getElem?_range hl, Option.map_some, h2]
    · rw [if_neg hl, List.getElem?_eq_none (by simpa using hl)]
      rfl
  · rw [if_neg e]
    by_cases hl : j < N
    · rw [List.getElem?_range hl, Option.map_some, Option.map_some, h1 j (Ne.symm e)]
    · rw [List.getElem?_eq_none (by simpa using hl)]
      rfl
section AMH
variable {p : Program} {l : Launch} {e : Env} {R : Room} {s : State} {m : MethodId} {args : Array Value} {below : List Frame} {meth : Method} {c : Code} {H : Heap} {locs : List Loc} {cells slots : Nat} {Q : State → Prop}
variable {cc : ByteArray} {pc : Nat} {ls : Array Slot} {rest : List Value} {b0 b L : Nat} {xs : Nat → Int32} {G : am_G} {cl : List vw_C} {own : Nat → String} {WS : List Cond} {D : va_G} {cA : Nat → ClassId} {h : am_H} {o idx ci fi a : Nat}
theorem am_obj_at (hX : am_X G cl D cA b0 b L xs h H) {t N : Nat} (hs : am_sh h a = some (t, N)) (ht : t ≠ 150) : a ≠ 0 ∧ a ≤ am_n h ∧ (am_wl G b0 b cA h)[a - 1]? = some (am_ad b0 b a, am_ce G b0 b cA h a) := by
  have h1 := hX.2.2.1 a _ hs
  have h0 : a ≠ 0 := fun z => ht (congrArg Prod.fst (h1.2 z))
  exact ⟨h0, h1.1, am_wl_at h0 h1.1⟩
theorem am_r_get (hx : p.tables.exec = Jvm.exec) (hb : c.code = cc) (hts : ∀ w ∈ WS, w.before args s = true) (hown : s.vm.findClass (own o) = some m.cls) (hY : am_Y G cl own D cA b0 b L xs s) (hok : am_ok G cl own WS ci) (hX : am_X G cl D cA b0 b L xs h H)
    (hpl : am_pl G o idx = (1, ci, fi, 0)) (hs : am_sh h a = some (ci, am_nf G ci)) (hfi : fi < am_nf G ci) (hd : decode cc pc = .ok (.getfield idx, 3)) {v : Value} (hv : (if am_ft G ci fi % 10 = 2 then va_rf ((am_P h a fi).map (am_ad b0 b)) else .int (am_I h a fi)) = v)
    (k : W p l e R s m args below meth c H locs cells slots Q (F0 m (pc + 3) ls (v :: rest))) : W p l e R s m args below meth c H locs cells slots Q (F0 m pc ls (.ref (am_ad b0 b a) :: rest)) := by
  obtain ⟨T, ty, hc, hlt, hu, hty, hnm, hdl, htt, hfin, hlk⟩ := hok
  obtain ⟨h0, hn, hat⟩ := am_obj_at hX hs (by omega)
  rw [am_ce_o hs hlt] at hat
  refine va_get hx hb hts hu hown hY.1 hX.1 (a - 1) hat hc fi hfi (hts _ (hlk o idx fi hpl hfi)) (fun x9 h9 => ?_) (v := v) ?_ hd k
  · rw [hdl fi hfi] at h9
    exact h9
  · rw [List.getElem?_map, List.getElem?_range hfi, Option.map_some, hv]
theorem am_r_put (hx : p.tables.exec = Jvm.exec) (hb : c.code = cc) (hts : ∀ w ∈ WS, w.before args s = true) (hown : s.vm.findClass (own o) = some m.cls) (hY : am_Y G cl own D cA b0 b L xs s) (hok : am_ok G cl own WS ci) (hX : am_X G cl D cA b0 b L xs h H) (hS : va_S (fun q => b ≤ q) s.heap H locs)
    (hpl : am_pl G o idx = (1, ci, fi, 0)) (hs : am_sh h a = some (ci, am_nf G ci)) (hfi : fi < am_nf G ci) (hf : am_ft G ci fi < 10 ∨ (meth.name = "<init>" ∧ own o = own ci)) (hd : decode cc pc = .ok (.putfield idx, 3)) {v : Value}
    (hv : (am_ft G ci fi % 10 = 0 ∧ ∃ x, v = .int x) ∨ (am_ft G ci fi % 10 = 1 ∧ (v = .int 0 ∨ v = .int 1)) ∨ (am_ft G ci fi % 10 = 2 ∧ ∃ x, v = .ref x))
    (kk : ∀ (H1 : Heap) (locs1 : List Loc), va_P D cl ((am_wl G b0 b cA h).set (a - 1) (am_ad b0 b a, .inr (ci, ((List.range (am_nf G ci)).map (fun j => if am_ft G ci j % 10 = 2 then va_rf ((am_P h a j).map (am_ad b0 b)) else .int (am_I h a j))).set fi v))) H1 → H1.size = H.size → (∀ q : Nat, q ≠ am_ad b0 b a → H1[q]? = H[q]?) → va_S (fun q => b ≤ q) s.heap H1 locs1 →
      W p l e R s m args below meth c H1 locs1 cells slots Q (F0 m (pc + 3) ls rest)) : W p l e R s m args below meth c H locs cells slots Q (F0 m pc ls (v :: .ref (am_ad b0 b a) :: rest)) := by
  obtain ⟨T, ty, hc, hlt, hu, hty, hnm, hdl, htt, hfin, hlk⟩ := hok
  obtain ⟨h0, hn, hat⟩ := am_obj_at hX hs (by omega)
  rw [am_ce_o hs hlt] at hat
  have hK := hY.1
  have hap := va_apart (own := own o) hts hu ty hty hnm hK hc
  have hnf : narrow (ty fi) v = v ∧ fits (ty fi) v = true := by
    rcases htt fi hfi with ⟨g1, g2⟩ | ⟨g1, g2⟩ | ⟨g1, g2⟩
    · rcases hv with ⟨_, x, rfl⟩ | ⟨w, _⟩ | ⟨w, _⟩
      · rw [g2]; exact ⟨rfl, rfl⟩
      · omega
      · omega
    · rcases hv with ⟨w, _⟩ | ⟨_, rfl | rfl⟩ | ⟨w, _⟩
      · omega
      · rw [g2]; exact ⟨rfl, rfl⟩
      · rw [g2]; exact ⟨rfl, rfl⟩
      · omega
    · rcases hv with ⟨w, _⟩ | ⟨w, _⟩ | ⟨_, x, rfl⟩
      · omega
      · omega
      · rcases g2 with ⟨n, g2⟩ | ⟨t, g2⟩ <;> rw [g2] <;> exact ⟨rfl, rfl⟩
  obtain ⟨r, h1, cell, q1, q2, q3, q4⟩ := hX.1 (a - 1) _ hat
  have hr : r = (own ci, T, am_nf G ci) := Option.some.inj (h1.symm.trans hc)
  subst hr
  obtain ⟨hS1, hfc, kC, hkC, hkind⟩ := hK.1 ci _ hc
  obtain ⟨cf, kf, f0, f, hi, hsl⟩ := hS1 fi hfi
  have hst := (u_facts hfc hkC (u_lays hts hu hfi) hi).1
  have hlk' := hts _ (hlk o idx fi hpl hfi)
  have hi' : s.fieldFound? (own ci) (T fi).2.1 (T fi).2.2.1 = some (cf, kf, f0, f) := by
    have := hi
    rw [show (own ci, T, am_nf G ci).2.1 = T from rfl, hdl fi hfi] at this
    exact this
  have hlay := hts _ (hu _ (u_in_lay hfi))
  unfold u_lay at hlay
  have hl : fi < ((List.range (am_nf G ci)).map (fun j => if am_ft G ci j % 10 = 2 then va_rf ((am_P h a j).map (am_ad b0 b)) else .int (am_I h a j))).length := by simpa using hfi
  by_cases h10 : am_ft G ci fi < 10
  · have hff : (T fi).2.2.2 = false := by rw [hfin fi hfi]; exact decide_eq_false (by omega)
    rw [if_neg (by rw [hff]; decide)] at hlay
    have h6 := u_store hfc hkC hkind hlay hi (hty fi hfi) hnf.1 hnf.2
    refine W.putK hx hb (f := f) ⟨hown, hlk', ⟨_, _, _, hi'⟩, hst⟩ (by rw [q2]; exact h6) q1 q3 (by rw [hsl]; exact k2_hasslot (q4 fi hfi)) rfl rfl hd fun H' e1 e2 e3 => ?_
    rw [hsl] at e1 ⊢
    exact kk H' _ (hX.1.set am_wl_D hat ⟨_, hc, t_OB.to (V := updV (vp_V _) fi v) ⟨_, e1, q2, q3, t_set q4 hap hfi v⟩ (fun j _ => vp_updV_set hl v j)⟩ e3) e2 e3 (hS.put e2 e3 (am_wl_D.2 _ _ hat))
  · rcases hf with hf | ⟨hin, hoo⟩
    · exact absurd hf h10
    · have hff : (T fi).2.2.2 = true := by rw [hfin fi hfi]; exact decide_eq_true (by omega)
      rw [if_pos hff] at hlay
      have hcf : m.cls = cf := by
        obtain ⟨_, _, c', _, _, _, -, -, hf', -, -, -, hown2, -⟩ := Cond.laysFinal_spec hlay
        have e1 : c' = cf := by have := hi.symm.trans hf'; simp at this; exact this.1.symm
        rw [hdl fi hfi, ← hoo] at hown2
        rw [← e1]; exact Option.some.inj (hown.symm.trans hown2)
      have h6 := u_fits hfc hkC hkind (Or.inr hlay) hi (hty fi hfi) hnf.1 hnf.2
      refine W.putFinK hx hb hown hlk' hi' hst hcf hin (by rw [q2]; exact h6) q1 q3 (by rw [hsl]; exact k2_hasslot (q4 fi hfi)) rfl rfl hd fun H' e1 e2 e3 => ?_
      rw [hsl] at e1 ⊢
      exact kk H' _ (hX.1.set am_wl_D hat ⟨_, hc, t_OB.to (V := updV (vp_V _) fi v) ⟨_, e1, q2, q3, t_set q4 hap hfi v⟩ (fun j _ => vp_updV_set hl v j)⟩ e3) e2 e3 (hS.put e2 e3 (am_wl_D.2 _ _ hat))
theorem am_ns {q : Nat × va_E} (h : va_at D cl q H) : ∃ ce : Cell, H[q.1]? = some ce ∧ ce.vm.isStatics = false := by
  obtain ⟨a9, e9⟩ := q
  cases e9 with
  | inl x =>
    refine ⟨_, h, ?_⟩
    obtain ⟨cA9, N9, f9⟩ := x
    rcases f9 with f9 | f9 | f9 | f9 | f9 <;> rfl
  | inr o9 =>
    obtain ⟨r, h1, cell, h2, h3, h4, h5⟩ := h
    exact ⟨cell, h2, by rw [h4]; rfl⟩
/-- a heap in which one cell's ints, or references, have changed -/
theorem am_X_of {h' : am_H} {H1 : Heap} {v : va_E} (hX : am_X G cl D cA b0 b L xs h H) (h0 : a ≠ 0) (hn : a ≤ am_n h) (hs' : am_sh h' = am_sh h) (hn' : am_n h' = am_n h) (hg' : am_g h' = am_g h) (hI0 : am_I h' 0 = am_I h 0) (he : am_ce G b0 b cA h' a = v) (ho : ∀ x, x ≠ a → am_ce G b0 b cA h' x = am_ce G b0 b cA h x)
    (hP1 : va_P D cl ((am_wl G b0 b cA h).set (a - 1) (am_ad b0 b a, v)) H1) (hz : H1.size = H.size) (hq : ∀ q : Nat, q ≠ am_ad b0 b a → H1[q]? = H[q]?) : am_X G cl D cA b0 b L xs h' H1 := by
  have hw : (am_wl G b0 b cA h).set (a - 1) (am_ad b0 b a, v) = am_wl G b0 b cA h' := am_wl_set h0 hn' he ho
  rw [hw] at hP1
  refine ⟨hP1, ?_, ?_, ?_, ?_⟩
  · rw [hz, hX.2.1, hn', hg']
  · intro x q hq
    rw [hs'] at hq
    rw [hn']
    exact hX.2.2.1 x q hq
  · rw [hI0]
    exact hX.2.2.2.1
  · intro q ce hb9 hc9
    by_cases e9 : q = am_ad b0 b a
    · subst e9
      obtain ⟨ce2, g1, g2⟩ := am_ns (hP1 (a - 1) _ (am_wl_at h0 (by rw [hn']; exact hn)))
      cases g1.symm.trans hc9
      exact g2
    · rw [hq q e9] at hc9
      exact hX.2.2.2.2 q ce hb9 hc9
theorem am_r_ald (hx : p.tables.exec = Jvm.exec) (hb : c.code = cc) (hY : am_Y G cl own D cA b0 b L xs s) (hX : am_X G cl D cA b0 b L xs h H) (hS : va_S (fun q => b ≤ q) s.heap H locs) {ins : Instr} {i : Int32} {f : Value → Prop} (hh : am_ald G ins h i a f) (hd : decode cc pc = .ok (ins, 1))
    (k : ∀ v, f v → W p l e R s m args below meth c H locs cells slots Q (F0 m (pc + 1) ls (am_tv b0 b v :: rest))) : W p l e R s m args below meth c H locs cells slots Q (F0 m pc ls (.int i :: .ref (am_ad b0 b a) :: rest)) := by
  obtain ⟨⟨t, N⟩, hs, hin, hh⟩ := am_so_s hh
  · dsimp only at hin hh
    split at hh
    · obtain ⟨ht | ⟨ht, h0⟩, hf⟩ := hh
      · subst ht
        obtain ⟨-, -, hat⟩ := am_obj_at hX hs (by decide)
        rw [am_ce_i hs (by decide) (by decide)] at hat
        exact va_iald hx hb hY.1 hX.1 (a - 1) 0 hat rfl hin hd (k _ hf)
      · subst ht
        subst h0
        have hL : N = L := by
          have := (hX.2.2.1 0 _ hs).2 rfl
          exact congrArg Prod.snd this
        subst hL
        have hk := k _ hf
        rw [hX.2.2.2.1] at hk
        exact va_sld (A := fun q => b ≤ q) hx hb hY.2.2.2.1 (Nat.lt_of_lt_of_le hY.2.1 hY.2.2.1) (by have := hY.2.1; show ¬ b ≤ b0; omega) hS hin hd hk
    · obtain ⟨ht, hf⟩ := hh
      subst ht
      obtain ⟨-, -, hat⟩ := am_obj_at hX hs (by decide)
      rw [am_ce_i hs (by decide) (by decide)] at hat
      exact va_zald hx hb hY.1 hX.1 (a - 1) 1 hat rfl hin hd (k _ hf)
    · obtain ⟨ht, hf⟩ := hh
      subst ht
      obtain ⟨-, -, hat⟩ := am_obj_at hX hs (by decide)
      rw [am_ce_l hs] at hat
      exact va_lald hx hb hY.1 hX.1 (a - 1) 2 hat rfl hin hd (k _ hf)
    · obtain ⟨ht, hf⟩ := hh
      obtain ⟨j, hj, hf⟩ := am_so_s hf
      have hk := k _ hf
      rcases ht with ht | ht <;> subst ht
      · obtain ⟨-, -, hat⟩ := am_obj_at hX hs (by decide)
        rw [am_ce_q hs (by decide)] at hat
        refine va_aldq hx hb hY.1 hX.1 (a - 1) 3 hat rfl hin hd ?_
        rw [hj]
        exact hk
      · obtain ⟨-, -, hat⟩ := am_obj_at hX hs (by decide)
        rw [am_ce_q hs (by decide)] at hat
        refine va_aldq hx hb hY.1 hX.1 (a - 1) 4 hat rfl hin hd ?_
        rw [hj]
        exact hk
    · exact hh.elim
end AMH
end
section
/-! Part 22: rows of stores into arrays, of lengths, of new cells, of arraycopy -/
section AMH2
variable {p : Program} {l : Launch} {e : Env} {R : Room} {s : State} {m : MethodId} {args : Array Value} {below : List Frame} {meth : Method} {c : Code} {H : Heap} {locs : List Loc} {cells slots : Nat} {Q : State → Prop}
variable {cc : ByteArray} {pc : Nat} {ls : Array Slot} {rest : List Value} {b0 b L : Nat} {xs : Nat → Int32} {G : am_G} {cl : List vw_C} {own : Nat → String} {WS : List Cond} {D : va_G} {cA : Nat → ClassId} {h : am_H} {o idx ci fi a : Nat}
theorem am_r_ast (hx : p.tables.exec = Jvm.exec) (hb : c.code = cc) (hY : am_Y G cl own D cA b0 b L xs s) (hac : ∀ t, (t = 103 ∨ t = 104) → am_ok G cl own WS (am_ac G t)) (hX : am_X G cl D cA b0 b L xs h H) (hS : va_S (fun q => b ≤ q) s.heap H locs) {ins : Instr} {v : Value} {i : Int32} {f : am_H → Prop} (hh : am_ast G ins h v i a f) (hd : decode cc pc = .ok (ins, 1))
    (k : ∀ (h' : am_H) (H1 : Heap) (locs1 : List Loc), f h' → am_X G cl D cA b0 b L xs h' H1 → va_S (fun q => b ≤ q) s.heap H1 locs1 → W p l e R s m args below meth c H1 locs1 cells slots Q (F0 m (pc + 1) ls rest)) : W p l e R s m args below meth c H locs cells slots Q (F0 m pc ls (am_tv b0 b v :: .int i :: .ref (am_ad b0 b a) :: rest)) := by
  obtain ⟨⟨t, N⟩, hs, hin, hh2⟩ := am_so_s hh
  clear hh
  have hh := hh2
  clear hh2
  · dsimp only at hin hh
    split at hh
    · rename_i x
      obtain ⟨ht, hf⟩ := hh
      subst ht
      obtain ⟨h0, hn, hat⟩ := am_obj_at hX hs (by decide)
      rw [am_ce_i hs (by decide) (by decide)] at hat
      refine W.iast hx hb (hX.1 (a - 1) _ hat) ((hY.1.2 0 _ rfl).1 N (fun j => .int (am_I h a j))) (fun q => by cases q) (by show ¬ (i < 0 ∨ (arrV _ _ _).slots.size ≤ _); rw [arrV_size]; exact hin) rfl rfl hd fun H1 e1 z oq => ?_
      refine k _ H1 _ hf (am_X_of (v := .inl (cA 100, N, .inl (am_u2 (am_I h) a i.toNatClampNeg x a))) hX h0 hn rfl rfl rfl (am_u2_ne _ _ _ (Ne.symm h0)) (am_ce_i (h := am_setI h (am_u2 (am_I h) a i.toNatClampNeg x)) hs (by decide) (by decide)) (fun y hy => am_ce_eq rfl rfl (am_u2_ne _ _ _ hy) rfl) (hX.1.set am_wl_D hat ?_ oq) z oq) (hS.put z oq (am_wl_D.2 _ _ hat))
      show H1[am_ad b0 b a]? = some (vp_cell _ _)
      rw [e1, am_u2_eq]
      dsimp only
      rw [vp_cell_i, vp_cell_i, arrV_store]
      congr 2
      funext q
      by_cases hq : q = i.toNatClampNeg
      · subst hq
        simp [updV]
      · simp [updV, hq]
    · rename_i x
      obtain ⟨ht, hf⟩ := hh
      subst ht
      obtain ⟨h0, hn, hat⟩ := am_obj_at hX hs (by decide)
      rw [am_ce_i hs (by decide) (by decide)] at hat
      refine W.zast hx hb (hX.1 (a - 1) _ hat) ((hY.1.2 1 _ rfl).1 N (fun j => .int (am_I h a j))) (fun q => by cases q) (by show ¬ (i < 0 ∨ (arrV _ _ _).slots.size ≤ _); rw [arrV_size]; exact hin) rfl rfl hd fun H1 e1 z oq => ?_
      refine k _ H1 _ hf (am_X_of (v := .inl (cA 101, N, .inl (am_u2 (am_I h) a i.toNatClampNeg (vp_nar .boolean x) a))) hX h0 hn rfl rfl rfl (am_u2_ne _ _ _ (Ne.symm h0)) (am_ce_i (h := am_setI h (am_u2 (am_I h) a i.toNatClampNeg (vp_nar .boolean x))) hs (by decide) (by decide)) (fun y hy => am_ce_eq rfl rfl (am_u2_ne _ _ _ hy) rfl) (hX.1.set am_wl_D hat ?_ oq) z oq) (hS.put z oq (am_wl_D.2 _ _ hat))
      show H1[am_ad b0 b a]? = some (vp_cell _ _)
      rw [e1, am_u2_eq]
      dsimp only
      rw [vp_cell_i, vp_cell_i, arrV_store]
      congr 2
      funext q
      by_cases hq : q = i.toNatClampNeg
      · subst hq
        simp [updV, vp_nar]
        try rfl
      · simp [updV, hq]
    · rename_i x
      obtain ⟨ht, hf⟩ := hh
      subst ht
      obtain ⟨h0, hn, hat⟩ := am_obj_at hX hs (by decide)
      rw [am_ce_l hs] at hat
      refine W.last hx hb (hX.1 (a - 1) _ hat) ((hY.1.2 2 _ rfl).1 N (fun j => .long (am_L h a j))) (fun q => by cases q) (by show ¬ (i < 0 ∨ (arrV _ _ _).slots.size ≤ _); rw [arrV_size]; exact hin) rfl rfl hd fun H1 e1 z oq => ?_
      refine k _ H1 _ hf (am_X_of (v := .inl (cA 102, N, .inr (.inl (am_u2 (am_L h) a i.toNatClampNeg x a)))) hX h0 hn rfl rfl rfl rfl (am_ce_l (h := am_setL h (am_u2 (am_L h) a i.toNatClampNeg x)) hs) (fun y hy => am_ce_eq rfl rfl rfl (am_u2_ne _ _ _ hy)) (hX.1.set am_wl_D hat ?_ oq) z oq) (hS.put z oq (am_wl_D.2 _ _ hat))
      show H1[am_ad b0 b a]? = some (vp_cell _ _)
      rw [e1, am_u2_eq]
      dsimp only
      rw [vp_cell_l, vp_cell_l, arrV_store]
      congr 2
      funext q
      by_cases hq : q = i.toNatClampNeg
      · subst hq
        simp [updV]
      · simp [updV, hq]
    · rename_i j
      obtain ⟨ht, hsj, hlt, hf⟩ := hh
      obtain ⟨h0, hn, hat⟩ := am_obj_at hX hs (by omega)
      rw [am_ce_q hs (by omega)] at hat
      obtain ⟨-, -, hatj⟩ := am_obj_at hX hsj (by omega)
      rw [am_ce_o hsj hlt] at hatj
      obtain ⟨T, ty, hc, -⟩ := hac t ht
      obtain ⟨r', hr', cellV, g1, g2, g3, -⟩ := hX.1 (j - 1) _ hatj
      have hcls := (hY.1.1 (am_ac G t) _ hc).2
      have hRA : ∃ n : Nat, (am_tys cl G own cA)[n]? = some (cA t, FieldType.object (own (am_ac G t))) := by
        rcases ht with ht | ht <;> subst ht
        · exact ⟨3, rfl⟩
        · exact ⟨4, rfl⟩
      obtain ⟨n, hRA⟩ := hRA
      obtain ⟨kA, comp, k1, k2, k3, -⟩ := (hY.1.2 n _ hRA).2
      have hcomp : comp = D.1 (am_ac G t) := Option.some.inj (k3.symm.trans hcls.1)
      subst hcomp
      obtain ⟨kC, hkC, -⟩ := hcls.2
      have h9 : ¬ i < 0 := fun q => hin (Or.inl q)
      have hlt9 : i.toNatClampNeg < N := Nat.not_le.mp fun q => hin (Or.inr q)
      refine W.aast hx hb (hX.1 (a - 1) _ hat) (fun q h => by cases h) (fun h => by cases h) k1 k2 rfl hkC ⟨h9, by show _ < (arrV _ _ _).slots.size; rw [arrV_size]; exact hlt9⟩ g1 (fun q h => by rw [g3] at h; cases h) (by rw [g2]; exact hkC) (by rw [g2]; exact va_assign hcls) rfl rfl hd fun H1 e1 z oq => ?_
      refine k _ H1 _ hf (am_X_of (v := .inl (cA t, N, .inr (.inr (.inr (.inr (fun y => (am_u2 (am_P h) a i.toNatClampNeg (some j) a y).map (am_ad b0 b))))))) hX h0 hn rfl rfl rfl rfl (am_ce_q (h := am_setP h (am_u2 (am_P h) a i.toNatClampNeg (some j))) hs (by omega)) (fun y hy => am_ce_eq rfl (am_u2_ne _ _ _ hy) rfl rfl) (hX.1.set am_wl_D hat ?_ oq) z oq) (hS.put z oq (am_wl_D.2 _ _ hat))
      show H1[am_ad b0 b a]? = some (vp_cell _ _)
      rw [e1, am_u2_eq]
      dsimp only
      rw [vp_cell_q, vp_cell_q, arrV_store]
      congr 2
      funext q
      by_cases hq : q = i.toNatClampNeg
      · subst hq
        simp [updV, va_rf]
      · simp [updV, hq]
    · exact hh.elim
theorem am_r_len (hx : p.tables.exec = Jvm.exec) (hb : c.code = cc) (hY : am_Y G cl own D cA b0 b L xs s) (hX : am_X G cl D cA b0 b L xs h H) (hS : va_S (fun q => b ≤ q) s.heap H locs) {t N : Nat} (hs : am_sh h a = some (t, N)) (ht : 100 ≤ t ∧ t ≤ 104 ∨ (t = 150 ∧ a = 0)) (hd : decode cc pc = .ok (.arraylength, 1))
    (k : W p l e R s m args below meth c H locs cells slots Q (F0 m (pc + 1) ls (.int (Int32.ofNat N) :: rest))) : W p l e R s m args below meth c H locs cells slots Q (F0 m pc ls (.ref (am_ad b0 b a) :: rest)) := by
  rcases ht with ⟨h1, h2⟩ | ⟨h1, h2⟩
  · obtain ⟨-, -, hat⟩ := am_obj_at hX hs (by omega)
    have ht : t = 100 ∨ t = 101 ∨ t = 102 ∨ t = 103 ∨ t = 104 := by omega
    rcases ht with ht | ht | ht | ht | ht <;> subst ht
    · rw [am_ce_i hs (by decide) (by decide)] at hat
      exact va_alen hx hb hY.1 hX.1 (a - 1) 0 hat rfl rfl hd k
    · rw [am_ce_i hs (by decide) (by decide)] at hat
      exact va_alen hx hb hY.1 hX.1 (a - 1) 1 hat rfl rfl hd k
    · rw [am_ce_l hs] at hat
      exact va_alen hx hb hY.1 hX.1 (a - 1) 2 hat rfl rfl hd k
    · rw [am_ce_q hs (by decide)] at hat
      exact va_alen hx hb hY.1 hX.1 (a - 1) 3 hat rfl rfl hd k
    · rw [am_ce_q hs (by decide)] at hat
      exact va_alen hx hb hY.1 hX.1 (a - 1) 4 hat rfl rfl hd k
  · subst h1
    subst h2
    have hL : N = L := congrArg Prod.snd ((hX.2.2.1 0 _ hs).2 rfl)
    subst hL
    exact va_slen (A := fun q => b ≤ q) hx hb hY.2.2.2.1 (Nat.lt_of_lt_of_le hY.2.1 hY.2.2.1) (by have := hY.2.1; show ¬ b ≤ b0; omega) hS hd k
/-- a cell has come: the picture with it -/
theorem am_X_add {t N : Nat} {H1 : Heap} {v : va_E} (hX : am_X G cl D cA b0 b L xs h H) (hg : am_g h = 0) (ht : t ≠ 150) (he : am_ce G b0 b cA (am_add h t N) (am_n h + 1) = v) (hv : va_at D cl (b + am_n h, v) H1) (hz : H1.size = H.size + 1) (ho : ∀ q, q < H.size → H1[q]? = H[q]?) : am_X G cl D cA b0 b L xs (am_add h t N) H1 := by
  have hsz : H.size = b + am_n h := by rw [hX.2.1, hg]; rfl
  refine ⟨?_, ?_, ?_, ?_, ?_⟩
  · rw [← am_wl_add (h := h) (h' := am_add h t N) rfl he (fun x hx => ?_)]
    · refine va_P.app (hX.1.kept fun k q hk => ho q.1 ((hX.1 k q hk).lt)) (fun k q hk => ?_)
      have hz : k < 1 := (List.getElem?_eq_some_iff.mp hk).1
      rw [show k = 0 by omega] at hk
      cases hk
      exact hv
    · have hne : x ≠ am_n h + 1 := by omega
      exact am_ce_eq (am_u1_ne _ _ hne) (am_u1_ne _ _ hne) (am_u1_ne _ _ hne) (am_u1_ne _ _ hne)
  · rw [hz, hsz]
    show b + am_n h + 1 = b + (am_n h + 1) + am_g h
    omega
  · intro x q hq
    by_cases hne : x = am_n h + 1
    · subst hne
      exact ⟨Nat.le_refl _, fun z => by omega⟩
    · have hq' : am_sh h x = some q := (am_u1_ne (am_sh h) (some (t, N)) hne).symm.trans hq
      obtain ⟨h1, h2⟩ := hX.2.2.1 x q hq'
      exact ⟨Nat.le_succ_of_le h1, h2⟩
  · exact (am_u1_ne (am_I h) (fun _ => 0) (k := am_n h + 1) (Nat.succ_ne_zero (am_n h)).symm).trans hX.2.2.2.1
  · intro q ce hb9 hc9
    by_cases e9 : q = H.size
    · subst e9
      obtain ⟨ce2, g1, g2⟩ := am_ns hv
      rw [← hsz] at g1
      cases g1.symm.trans hc9
      exact g2
    · have hlt : q < H.size := by
        have := (Array.getElem?_eq_some_iff.mp hc9).1
        omega
      rw [ho q hlt] at hc9
      exact hX.2.2.2.2 q ce hb9 hc9
theorem am_S_add {H1 : Heap} (hS : va_S (fun q => b ≤ q) s.heap H locs) (hz : H1.size = H.size + 1) (ho : ∀ q, q < H.size → H1[q]? = H[q]?) : va_S (fun q => b ≤ q) s.heap H1 locs :=
  ⟨Nat.le_trans hS.1 (by omega), fun q h1 h2 => (ho q (Nat.lt_of_lt_of_le h1 hS.1)).trans (hS.2.1 q h1 h2), hS.2.2⟩
theorem am_r_new (hx : p.tables.exec = Jvm.exec) (hb : c.code = cc) (hts : ∀ w ∈ WS, w.before args s = true) (hown : s.vm.findClass (own o) = some m.cls) (hY : am_Y G cl own D cA b0 b L xs s) (hok : am_ok G cl own WS ci) (hX : am_X G cl D cA b0 b L xs h H) (hS : va_S (fun q => b ≤ q) s.heap H locs)
    (hlk : Cond.classLink (own o) idx (own ci) ∈ WS) (hin : Cond.instantiable (own ci) (am_nf G ci) ∈ WS) (hini : Cond.initialized (own ci) ∈ WS) (hg : am_g h = 0) (hcells : cells + 1 ≤ R.cells) (hslots : slots + am_nf G ci ≤ R.slots) (hd : decode cc pc = .ok (.new idx, 3))
    (k : ∀ (H1 : Heap), am_X G cl D cA b0 b L xs (am_add h ci (am_nf G ci)) H1 → va_S (fun q => b ≤ q) s.heap H1 locs → W p l e R s m args below meth c H1 locs (cells + 1) (slots + am_nf G ci) Q (F0 m (pc + 3) ls (.ref (am_ad b0 b (am_n h + 1)) :: rest))) : W p l e R s m args below meth c H locs cells slots Q (F0 m pc ls rest) := by
  obtain ⟨T, ty, hc, hlt, hu, hty, hnm, hdl, htt, hfin, hlk9⟩ := hok
  have hsz : H.size = b + am_n h := by rw [hX.2.1, hg]; rfl
  have hKn := hY.1.1 ci _ hc
  refine W.newcK hx hb hown (hts _ hlk) (hts _ hin) (hts _ hini) rfl hd hcells hslots hKn.2.1 hsz fun H1 kC hkC e1 z1 o1 => ?_
  have hs9 : am_sh (am_add h ci (am_nf G ci)) (am_n h + 1) = some (ci, am_nf G ci) := am_u1_eq _ _ _
  refine k H1 (am_X_add hX hg (by omega) (am_ce_o hs9 hlt) ⟨_, hc, (u_born ty hts hu hKn hkC e1 hty).to (fun j hj => ?_)⟩ (by omega) (fun q hq => o1 q (by omega))) (am_S_add hS (by omega) (fun q hq => o1 q (by omega)))
  show defaultValue (ty j) = vp_V ((List.range (am_nf G ci)).map _) j
  unfold vp_V
  rw [List.getD_eq_getElem?_getD, List.getElem?_map, List.getElem?_range hj, Option.map_some, Option.getD_some]
  have hP9 : am_P (am_add h ci (am_nf G ci)) (am_n h + 1) = fun _ => none := am_u1_eq _ _ _
  have hI9 : am_I (am_add h ci (am_nf G ci)) (am_n h + 1) = fun _ => 0 := am_u1_eq _ _ _
  rw [hP9, hI9]
  rcases htt j hj with ⟨g1, g2⟩ | ⟨g1, g2⟩ | ⟨g1, g2⟩
  · rw [if_neg (by omega), g2]
    rfl
  · rw [if_neg (by omega), g2]
    rfl
  · rw [if_pos g1]
    rcases g2 with ⟨n, g2⟩ | ⟨n, g2⟩ <;> rw [g2] <;> rfl
/-- a new array: t its tag, ty what it holds -/
theorem am_r_newa (hx : p.tables.exec = Jvm.exec) (hb : c.code = cc) (hts : ∀ w ∈ WS, w.before args s = true) (hY : am_Y G cl own D cA b0 b L xs s) (hX : am_X G cl D cA b0 b L xs h H) (hS : va_S (fun q => b ≤ q) s.heap H locs) {at_ : ArrayType} {t : Nat} (hat : (at_ = .int ∧ t = 100) ∨ (at_ = .boolean ∧ t = 101) ∨ (at_ = .long ∧ t = 102))
    (harr : Cond.arrayClass (newarray.typeOf at_) ∈ WS) {n : Int32} (hn : ¬ n < 0) (h4 : n.toNatClampNeg ≤ 10000) (hg : am_g h = 0) (hcells : cells + 1 ≤ R.cells) (hslots : slots + n.toNatClampNeg ≤ R.slots) (hd : decode cc pc = .ok (.newarray at_, 2))
    (k : ∀ (H1 : Heap), am_X G cl D cA b0 b L xs (am_add h t n.toNatClampNeg) H1 → va_S (fun q => b ≤ q) s.heap H1 locs → W p l e R s m args below meth c H1 locs (cells + 1) (slots + n.toNatClampNeg) Q (F0 m (pc + 2) ls (.ref (am_ad b0 b (am_n h + 1)) :: rest))) : W p l e R s m args below meth c H locs cells slots Q (F0 m pc ls (.int n :: rest)) := by
  have hsz : H.size = b + am_n h := by rw [hX.2.1, hg]; rfl
  have hcb : n.toNatClampNeg * componentBytes (newarray.typeOf at_) ≤ 536870912 := by
    have : componentBytes (newarray.typeOf at_) ≤ 8 := by rcases hat with ⟨rfl, -⟩ | ⟨rfl, -⟩ | ⟨rfl, -⟩ <;> decide
    calc n.toNatClampNeg * componentBytes (newarray.typeOf at_) ≤ 10000 * 8 := Nat.mul_le_mul h4 this
      _ ≤ 536870912 := by decide
  refine va_newaK hx hb (hts _ harr) rfl hd rfl hn rfl hcb hcells hslots hsz fun H1 cA1 e1 z1 o1 hAr hNm => ?_
  have hs9 : am_sh (am_add h t n.toNatClampNeg) (am_n h + 1) = some (t, n.toNatClampNeg) := am_u1_eq _ _ _
  have hI9 : am_I (am_add h t n.toNatClampNeg) (am_n h + 1) = fun _ => 0 := am_u1_eq _ _ _
  have hL9 : am_L (am_add h t n.toNatClampNeg) (am_n h + 1) = fun _ => 0 := am_u1_eq _ _ _
  rcases hat with ⟨rfl, rfl⟩ | ⟨rfl, rfl⟩ | ⟨rfl, rfl⟩
  · have hcA : cA1 = cA 100 := Option.some.inj (hNm.symm.trans (hY.1.2 0 _ rfl).2)
    subst hcA
    refine k H1 (am_X_add hX hg (by decide) (am_ce_i hs9 (by decide) (by decide)) ?_ (by omega) (fun q hq => o1 q (by omega))) (am_S_add hS (by omega) (fun q hq => o1 q (by omega)))
    rw [hI9]
    exact e1
  · have hcA : cA1 = cA 101 := Option.some.inj (hNm.symm.trans (hY.1.2 1 _ rfl).2)
    subst hcA
    refine k H1 (am_X_add hX hg (by decide) (am_ce_i hs9 (by decide) (by decide)) ?_ (by omega) (fun q hq => o1 q (by omega))) (am_S_add hS (by omega) (fun q hq => o1 q (by omega)))
    rw [hI9]
    exact e1
  · have hcA : cA1 = cA 102 := Option.some.inj (hNm.symm.trans (hY.1.2 2 _ rfl).2)
    subst hcA
    refine k H1 (am_X_add hX hg (by decide) (am_ce_l hs9) ?_ (by omega) (fun q hq => o1 q (by omega))) (am_S_add hS (by omega) (fun q hq => o1 q (by omega)))
    rw [hL9]
    exact e1
theorem am_r_anew (hx : p.tables.exec = Jvm.exec) (hb : c.code = cc) (hts : ∀ w ∈ WS, w.before args s = true) (hown : s.vm.findClass (own o) = some m.cls) (hY : am_Y G cl own D cA b0 b L xs s) (hX : am_X G cl D cA b0 b L xs h H) (hS : va_S (fun q => b ≤ q) s.heap H locs) {t : Nat} (ht : t = 103 ∨ t = 104)
    (hlk : Cond.classLink (own o) idx (own (am_ac G t)) ∈ WS) (hov : Cond.arrayOver (.object (own (am_ac G t))) ∈ WS) {n : Int32} (hn : ¬ n < 0) (h4 : n.toNatClampNeg ≤ 10000) (hg : am_g h = 0) (hcells : cells + 1 ≤ R.cells) (hslots : slots + n.toNatClampNeg ≤ R.slots) (hd : decode cc pc = .ok (.anewarray idx, 3))
    (k : ∀ (H1 : Heap), am_X G cl D cA b0 b L xs (am_add h t n.toNatClampNeg) H1 → va_S (fun q => b ≤ q) s.heap H1 locs → W p l e R s m args below meth c H1 locs (cells + 1) (slots + n.toNatClampNeg) Q (F0 m (pc + 3) ls (.ref (am_ad b0 b (am_n h + 1)) :: rest))) : W p l e R s m args below meth c H locs cells slots Q (F0 m pc ls (.int n :: rest)) := by
  have hsz : H.size = b + am_n h := by rw [hX.2.1, hg]; rfl
  refine W.anew hx hb hown (hts _ hlk) (hts _ hov) rfl hd rfl hn (by omega) hcells hslots fun cA1 kA comp g1 g2 g3 g4 => ?_
  have hs9 : am_sh (am_add h t n.toNatClampNeg) (am_n h + 1) = some (t, n.toNatClampNeg) := am_u1_eq _ _ _
  have hP9 : am_P (am_add h t n.toNatClampNeg) (am_n h + 1) = fun _ => none := am_u1_eq _ _ _
  have hRA : ∃ n : Nat, (am_tys cl G own cA)[n]? = some (cA t, FieldType.object (own (am_ac G t))) := by
    rcases ht with ht | ht <;> subst ht
    · exact ⟨3, rfl⟩
    · exact ⟨4, rfl⟩
  obtain ⟨n9, hRA⟩ := hRA
  obtain ⟨kA9, comp9, k1, k2, k3, k4⟩ := (hY.1.2 n9 _ hRA).2
  have hcA : cA1 = cA t := Option.some.inj (g1.symm.trans k4)
  subst hcA
  have hz : (H.push { cls := cA t, slots := Array.replicate n.toNatClampNeg .null, vm := .none }).size = H.size + 1 := by simp
  have ho : ∀ q, q < H.size → (H.push { cls := cA t, slots := Array.replicate n.toNatClampNeg .null, vm := .none })[q]? = H[q]? := fun q hq => by
    rw [Array.getElem?_push, if_neg (Nat.ne_of_lt hq)]
  have hk := k _ (am_X_add (t := t) (N := n.toNatClampNeg) hX hg (by omega) (am_ce_q hs9 (by omega)) (by
    rw [hP9]
    show (H.push _)[b + am_n h]? = some (vp_cell _ _)
    rw [← hsz, Array.getElem?_push_size, vp_cell_q, arrV_new]
    rfl) hz ho) (am_S_add hS hz ho)
  rw [show am_ad b0 b (am_n h + 1) = b + am_n h from rfl, ← hsz] at hk
  exact hk
theorem am_r_cpy (hx : p.tables.exec = Jvm.exec) (hb : c.code = cc) (hml : c.maxLocals = ls.size) (hts : ∀ w ∈ WS, w.before args s = true) (hown : s.vm.findClass (own o) = some m.cls) (hY : am_Y G cl own D cA b0 b L xs s) (hX : am_X G cl D cA b0 b L xs h H) (hS : va_S (fun q => b ≤ q) s.heap H locs)
    (hlk : Cond.methodLink (own o) idx arraycopyName ∈ WS) (hnat : Cond.native arraycopyName ∈ WS) (hstat : Cond.static arraycopyName ∈ WS) (hini : Cond.initialized "java/lang/System" ∈ WS) (hfr : 1 ≤ R.frames) (hlo : 8 + (nativeFrameWords "java/lang/System" "arraycopy" 5 + 11) ≤ R.locals) {st : List Value} {f : am_H → List Value → Prop} (hh : am_cpy h st f) (hd : decode cc pc = .ok (.invokestatic idx, 3))
    (k : ∀ (h' : am_H) (r : List Value) (H1 : Heap) (locs1 : List Loc), f h' r → am_X G cl D cA b0 b L xs h' H1 → va_S (fun q => b ≤ q) s.heap H1 locs1 → W p l e R s m args below meth c H1 locs1 cells slots Q (F0 m (pc + 3) ls (r.map (am_tv b0 b)))) : W p l e R s m args below meth c H locs cells slots Q (F0 m pc ls (st.map (am_tv b0 b))) := by
  unfold am_cpy at hh
  split at hh
  · rename_i n dp a1 sp a0 r
    obtain ⟨n0, n1, hs0, hs1, g1, g2, g3, g4, g5, hw, hf⟩ := hh
    obtain ⟨z0, hn0, hat0⟩ := am_obj_at hX hs0 (by decide)
    obtain ⟨z1, hn1, hat1⟩ := am_obj_at hX hs1 (by decide)
    rw [am_ce_i hs0 (by decide) (by decide)] at hat0
    rw [am_ce_i hs1 (by decide) (by decide)] at hat1
    have nn : ∀ z : Int32, ¬ z < 0 → z.toInt = (z.toNatClampNeg : Int) := by
      intro z hz
      have hz0 : (0 : Int) ≤ z.toInt := by
        have := Int32.not_lt.mp hz
        simpa using Int32.le_iff_toInt_le.mp this
      show z.toInt = ((z.toInt.toNat : Nat) : Int)
      omega
    intro T hT X
    have hc0 : H[am_ad b0 b a0]? = some (vp_cell (cA 100) (n0, .inl (am_I h a0))) := hX.1 (a0 - 1) _ hat0
    have hc1 : H[am_ad b0 b a1]? = some (vp_cell (cA 100) (n1, .inl (am_I h a1))) := hX.1 (a1 - 1) _ hat1
    obtain ⟨-, kk0, hk0, cm0, hkk0⟩ := (hY.1.2 0 _ rfl).1 n0 (fun j => .int (am_I h a0 j))
    obtain ⟨-, kk1, hk1, cm1, hkk1⟩ := (hY.1.2 0 _ rfl).1 n1 (fun j => .int (am_I h a1 j))
    obtain ⟨vm', X', step⟩ := X.arraycopy hx hown (hts _ hlk) (hts _ hnat) (hts _ hstat) (hts _ hini) (src := am_ad b0 b a0) (dst := am_ad b0 b a1) (cs := vp_cell (cA 100) (n0, .inl (am_I h a0))) (cd := vp_cell (cA 100) (n1, .inl (am_I h a1))) (srcPos := sp) (destPos := dp) (n := n) (by rw [hT]; exact hc0) (by rw [hT]; exact hc1)
      (fun _ h => by cases h) (fun _ h => by cases h) (fun h => by cases h) (fun h => by cases h) hk0 hk1 hkk0 hkk1 (by simp [refKind]) g1 g2 g3
      (by rw [nn sp g1, nn n g3]; show ¬ _ > ((arrV (cA 100) n0 (fun j => .int (am_I h a0 j))).slots.size : Int); rw [arrV_size]; omega)
      (by rw [nn dp g2, nn n g3]; show ¬ _ > ((arrV (cA 100) n1 (fun j => .int (am_I h a1 j))).slots.size : Int); rw [arrV_size]; omega)
      (fun vm₁ _ i hi => by
        have e9 : (vp_cell (cA 100) (n0, .inl (am_I h a0))).slots.getD (sp.toNatClampNeg + i) .null = .int (am_I h a0 (sp.toNatClampNeg + i)) := by
          show (arrV (cA 100) n0 (fun j => .int (am_I h a0 j))).slots.getD _ _ = _
          rw [Array.getD_eq_getD_getElem?, arrV_read _ _ (by omega)]
          rfl
        refine ⟨?_, ?_⟩
        · rw [e9]
          rfl
        · rw [e9]
          exact trivial)
      (g := F0 m pc ls (.int n :: .int dp :: .ref (am_ad b0 b a1) :: .int sp :: .ref (am_ad b0 b a0) :: r.map (am_tv b0 b))) rfl (by rw [hml]) (rest := r.map (am_tv b0 b)) rfl (by rw [hb]; exact hd) hfr (by show 2 * 0 + _ + _ ≤ _; rw [am_w8_map]; omega)
    have e1 : copied (vp_cell (cA 100) (n0, .inl (am_I h a0))) (vp_cell (cA 100) (n1, .inl (am_I h a1))) sp dp n = vp_cell (cA 100) (n1, .inl (va_cpy (am_I h a0) (am_I h a1) sp.toNatClampNeg dp.toNatClampNeg n.toNatClampNeg)) := va_copied (fun z => .int z) (cA 100) (cA 100) (am_I h a0) (am_I h a1) g4
    rw [e1] at X' step
    have hl9 : am_ad b0 b a1 < H.size := (Array.getElem?_eq_some_iff.mp hc1).1
    have oq : ∀ q : Nat, q ≠ am_ad b0 b a1 → (H.setIfInBounds (am_ad b0 b a1) (vp_cell (cA 100) (n1, .inl (va_cpy (am_I h a0) (am_I h a1) sp.toNatClampNeg dp.toNatClampNeg n.toNatClampNeg))))[q]? = H[q]? := fun q hq => by simp [Array.getElem?_setIfInBounds, Ne.symm hq]
    have hz9 : (H.setIfInBounds (am_ad b0 b a1) (vp_cell (cA 100) (n1, .inl (va_cpy (am_I h a0) (am_I h a1) sp.toNatClampNeg dp.toNatClampNeg n.toNatClampNeg)))).size = H.size := by simp
    have hXn : am_X G cl D cA b0 b L xs (am_setI h (am_u1 (am_I h) a1 (va_cpy (am_I h a0) (am_I h a1) sp.toNatClampNeg dp.toNatClampNeg n.toNatClampNeg))) (H.setIfInBounds (am_ad b0 b a1) (vp_cell (cA 100) (n1, .inl (va_cpy (am_I h a0) (am_I h a1) sp.toNatClampNeg dp.toNatClampNeg n.toNatClampNeg)))) := by
      refine am_X_of (v := .inl (cA 100, n1, .inl (va_cpy (am_I h a0) (am_I h a1) sp.toNatClampNeg dp.toNatClampNeg n.toNatClampNeg))) hX z1 hn1 rfl rfl rfl (am_u1_ne _ _ (Ne.symm z1)) ?_ (fun y hy => am_ce_eq rfl rfl (am_u1_ne _ _ hy) rfl) (hX.1.set am_wl_D hat1 ?_ oq) hz9 oq
      · rw [am_ce_i (h := am_setI h (am_u1 (am_I h) a1 (va_cpy (am_I h a0) (am_I h a1) sp.toNatClampNeg dp.toNatClampNeg n.toNatClampNeg))) hs1 (by decide) (by decide)]
        show Sum.inl (cA 100, n1, Sum.inl (am_u1 (am_I h) a1 _ a1)) = _
        rw [am_u1_eq]
      · show (H.setIfInBounds _ _)[am_ad b0 b a1]? = some _
        simp [Array.getElem?_setIfInBounds, hl9]
    obtain ⟨t, x1, x2⟩ := k _ r _ _ hf hXn ⟨by rw [hz9]; exact hS.1, fun q u1 u2 => by
        rw [oq q (fun z => u2 (by rw [z]; exact am_wl_D.2 _ _ hat1))]
        exact hS.2.1 q u1 u2, fun q hq => by
        rcases List.mem_append.mp hq with h9 | h9
        · exact hS.2.2 q h9
        · obtain ⟨z, -, hz⟩ := List.mem_map.mp h9
          rw [← hz]
          exact am_wl_D.2 _ _ hat1⟩ _ (by rw [← hT]; rfl) X'
    exact ⟨t, step t x1, x2⟩
  · exact hh.elim
end AMH2
end
section
/-! Part 23: contracts, and rows of calls -/
/-- a method's start: its arguments, the heap's picture, the tables -/
def am_Pc (G : am_G) (cl : List vw_C) (own : Nat → String) (D : va_G) (cA : Nat → ClassId) (b0 b L : Nat) (xs : Nat → Int32) (Z : State → Prop) (as : List Value) (h : am_H) : Array Value → State → Prop := fun v U =>
  v = (as.map (am_tv b0 b)).toArray ∧ am_X G cl D cA b0 b L xs h U.heap ∧ am_Y G cl own D cA b0 b L xs U ∧ Z U
/-- its end -/
def am_Qc (G : am_G) (cl : List vw_C) (xn : Nat → String) (D : va_G) (cA : Nat → ClassId) (b0 b L : Nat) (xs : Nat → Int32) (o : am_O) (h : am_H) : Array Value → State → Outcome → State → Prop := fun _ st oc t =>
  (match o with
  | .inl v => oc = .returned (v.map (am_tv b0 b))
  | .inr x => ∃ ce : Cell, oc = .threw (am_ad b0 b (am_n h + am_g h)) ∧ t.heap[am_ad b0 b (am_n h + am_g h)]? = some ce ∧ ce.vm = .none ∧ t.vm.findClass (xn x) = some ce.cls) ∧
  am_X G cl D cA b0 b L xs h t.heap ∧ va_F (fun q => b ≤ q) st t
def am_MX (l : Launch) (y : MethodName) (ws : List Cond) (rm : Room) (Pc : Array Value → State → Prop) (Qc : Array Value → State → Outcome → State → Prop) (mc ms : Nat) (free : Addr → Prop) : Prop :=
  MetFree l y (headSpec ws rm) Pc (fun _ _ _ _ _ => True) (fun a st o t => Qc a st o t ∧ ∃ Ls, (st.WarmedH t.vm ∧ st.sameButNew ({ t with vm := st.vm } : State) Ls mc ms) ∧ ∀ q ∈ Ls, free q.base)
def am_MQ (below : List Frame) (Qc : Array Value → State → Outcome → State → Prop) (a : Array Value) (s : State) (mc ms : Nat) (free : Addr → Prop) : State → Prop := fun t =>
  ∃ o, t.status = .running ∧ Ended t below o ∧ Qc a s o t ∧ ∃ Ls, (s.WarmedH t.vm ∧ s.sameButNew ({ t with vm := s.vm } : State) Ls mc ms) ∧ ∀ q ∈ Ls, free q.base
theorem am_MQ_of {below : List Frame} {Qc : Array Value → State → Outcome → State → Prop} {a : Array Value} {s : State} {mc ms : Nat} {free : Addr → Prop} {t : State} (h : MQ below Qc a s mc ms free t) : am_MQ below Qc a s mc ms free t := by
  obtain ⟨o, h1, h2, h3, Ls, h4, h5⟩ := h
  exact ⟨o, h1, h2, h3, Ls, ⟨h4.2.1, h4.2.2⟩, h5⟩
theorem am_MX_met {l : Launch} {y : MethodName} {ws : List Cond} {rm : Room} {Pc : Array Value → State → Prop} {Qc : Array Value → State → Outcome → State → Prop} {mc ms : Nat} {free : Addr → Prop} (hr : ∀ a st o t, Qc a st o t → ∃ v, o = .returned v) (h : am_MX l y ws rm Pc Qc mc ms free) : Met l y ws rm Pc Qc mc ms free := by
  refine MetFree.mono h (fun _ _ q => q) (fun _ _ _ _ _ q => q) (fun a s o s' _ hq => ?_)
  obtain ⟨h1, Ls, h2, h3⟩ := hq
  exact ⟨h1, Ls, ⟨hr _ _ _ _ h1, h2.1, h2.2⟩, h3⟩
theorem am_ofW {l : Launch} {y : MethodName} {ws ws' : List Cond} {rm : Room} {Pc : Array Value → State → Prop} {Qc : Array Value → State → Outcome → State → Prop} {mc ms : Nat} {free : Addr → Prop} {cc : ByteArray} {maxL : Nat} {ret : Option FieldType}
    (hy : plainFor y = true) (hw : ws = Cond.code y cc maxL ret :: ws')
    (body : ∀ p e s m args below meth c s₁, BodyLoose p l y (headSpec ws rm) cc maxL ret e s m args below meth c s₁ → c.maxLocals = maxL → Pc args s →
      W p l e (headSpec ws rm).room s m args below meth c s.heap [] 0 0 (am_MQ below Qc args s mc ms free) (entryFrame m args maxL)) : am_MX l y ws rm Pc Qc mc ms free := by
  refine MetFree.of_bodySF (code := cc) (maxLocals := maxL) (ret := ret) hy ?_ ?_
  · intro args s m h hn
    obtain ⟨meth, c, h1, h2, h3, h4, h5, h6, -, -⟩ := Cond.code_spec hn (atoms_spec (ws := ws) h _ (by rw [hw]; exact List.mem_cons_self))
    exact ⟨meth, c, h1, h2, h3, h4, h5, h6⟩
  · intro p e s m args below meth c s₁ B hml hP _
    have hh0 : s₁.heap = s.heap := by rw [B.state]; rfl
    obtain ⟨t, a1, o, b1, b2, b3⟩ := body p e s m args below meth c s₁ B hml hP s₁ hh0 (Stand.of_body B)
    exact ⟨t, o, a1, b1, b2, ⟨b3.1, b3.2⟩⟩
theorem am_ofWh {l : Launch} {y : MethodName} {ws ws' : List Cond} {rm : Room} {Pc : Array Value → State → Prop} {Qc : Array Value → State → Outcome → State → Prop} {mc ms : Nat} {free : Addr → Prop} {cc : ByteArray} {maxL : Nat} {ret : Option FieldType} {hh : List (Nat × Nat × Nat × Nat)}
    (hy : plainFor y = true) (hw : ws = Cond.codeWith y cc maxL ret hh :: ws')
    (body : ∀ p e s m args below meth c s₁, BodyLoose p l y (headSpec ws rm) cc maxL ret e s m args below meth c s₁ → c.maxLocals = maxL → Pc args s →
      W p l e (headSpec ws rm).room s m args below meth c s.heap [] 0 0 (am_MQ below Qc args s mc ms free) (entryFrame m args maxL)) : am_MX l y ws rm Pc Qc mc ms free := by
  refine MetFree.of_bodySF (code := cc) (maxLocals := maxL) (ret := ret) hy ?_ ?_
  · intro args s m h hn
    obtain ⟨m9, meth, c, hn9, h1, h2, h3, h4, -, h5, h6, -⟩ := Cond.codeWith_spec (atoms_spec (ws := ws) h _ (by rw [hw]; exact List.mem_cons_self))
    cases hn.symm.trans hn9
    exact ⟨meth, c, h1, h2, h3, h4, h5, h6⟩
  · intro p e s m args below meth c s₁ B hml hP _
    have hh0 : s₁.heap = s.heap := by rw [B.state]; rfl
    obtain ⟨t, a1, o, b1, b2, b3⟩ := body p e s m args below meth c s₁ B hml hP s₁ hh0 (Stand.of_body B)
    exact ⟨t, o, a1, b1, b2, ⟨b3.1, b3.2⟩⟩
section AMC
variable {p : Program} {l : Launch} {e : Env} {R : Room} {s : State} {m : MethodId} {args : Array Value} {below : List Frame} {meth : Method} {c : Code} {T : State} {H : Heap} {locs : List Loc} {cells slots : Nat} {Q : State → Prop}
/-- an invoking instruction, up to the invocation -/
def am_Go (p : Program) (l : Launch) (e : Env) (R : Room) (s : State) (m : MethodId) (args : Array Value) (below : List Frame) (meth : Method) (c : Code) (H : Heap) (locs : List Loc) (cells slots : Nat) (g : JFrame) (rest : List Value) (mk : MethodId) (a : Array Value) : Prop :=
  ∀ T : State, T.heap = H → Stand p l e R s m args below meth c T locs cells slots → ∃ vm₁ : Vm, s.WarmedH vm₁ ∧ Stand p l e R s m args below meth c (T.setVm vm₁) locs cells slots ∧
    ∀ target, Steps p.tables e below (doInvoke e ((T.setVm vm₁).setTop { g with stack := rest }) [] mk a).1 target → Steps p.tables e below (T.setTop g) target
theorem am_goS (hx : p.tables.exec = Jvm.exec) {own : String} {index : Nat} {y : MethodName} (hown : s.vm.findClass own = some m.cls) (hlink : (Cond.methodLink own index y).before args s = true) (hstat : (Cond.static y).before args s = true) (hini : (Cond.initialized y.cls).before args s = true) (hy : y.cls ≠ "java/lang/invoke/MethodHandle" ∧ y.cls ≠ "java/lang/invoke/VarHandle")
    {mk : MethodId} (hnamed : s.methodNamed? y = some mk) {methM : Method} (hmethM : s.vm.method? mk = some methM) {g : JFrame} (hg : g.method = m) {argsL rest : List Value} (hlen : argsL.length = methM.sig.parameters.length) (hstack : g.stack = argsL.reverse ++ rest) (hdg : decode c.code g.pc = .ok (.invokestatic index, 3)) :
    am_Go p l e R s m args below meth c H locs cells slots g rest mk argsL.toArray := by
  intro T hT X
  have hstatic : methM.isStatic = true := Cond.static_spec hnamed hmethM hstat
  obtain ⟨kP, hkP, -⟩ := className_of_methodNamed hnamed
  have hinitP : kP.init = .initialized := Cond.initialized_spec (findClass_of_methodNamed hnamed) hkP hini
  obtain ⟨vm₁, X₁, hstep₁⟩ := X.invokestatic hx hown hlink hnamed hmethM hstatic hkP hinitP hy (g := g) hg (argsL := argsL) (rest := rest) hlen hstack hdg
  exact ⟨vm₁, X₁.warmed, X₁, fun target h => hstep₁ _ fun acts => by rw [doInvoke_state]; exact h⟩
theorem am_goSN (hx : p.tables.exec = Jvm.exec) {own host : String} {index : Nat} {y : MethodName} (hown : s.vm.findClass own = some m.cls) (hlink : (Cond.methodLinkNest own index y host).before args s = true) (hstat : (Cond.static y).before args s = true) (hini : (Cond.initialized y.cls).before args s = true) (hy : y.cls ≠ "java/lang/invoke/MethodHandle" ∧ y.cls ≠ "java/lang/invoke/VarHandle")
    {mk : MethodId} (hnamed : s.methodNamed? y = some mk) {methM : Method} (hmethM : s.vm.method? mk = some methM) {g : JFrame} (hg : g.method = m) {argsL rest : List Value} (hlen : argsL.length = methM.sig.parameters.length) (hstack : g.stack = argsL.reverse ++ rest) (hdg : decode c.code g.pc = .ok (.invokestatic index, 3)) :
    am_Go p l e R s m args below meth c H locs cells slots g rest mk argsL.toArray := by
  intro T hT X
  have hstatic : methM.isStatic = true := Cond.static_spec hnamed hmethM hstat
  obtain ⟨kP, hkP, -⟩ := className_of_methodNamed hnamed
  have hinitP : kP.init = .initialized := Cond.initialized_spec (findClass_of_methodNamed hnamed) hkP hini
  obtain ⟨vm₁, X₁, hstep₁⟩ := X.invokestaticNest hx hown hlink hnamed hmethM hstatic hkP hinitP hy (g := g) hg (argsL := argsL) (rest := rest) hlen hstack hdg
  exact ⟨vm₁, X₁.warmed, X₁, fun target h => hstep₁ _ fun acts => by rw [doInvoke_state]; exact h⟩
theorem am_goV (hx : p.tables.exec = Jvm.exec) {own C : String} {index : Nat} {y : MethodName} (hown : s.vm.findClass own = some m.cls) (hlink : (Cond.methodLink own index y).before args s = true) (hinst : (Cond.instanceMethod y).before args s = true) (hsel : (Cond.selects C y y).before args s = true) (hy : y.cls ≠ "java/lang/invoke/MethodHandle" ∧ y.cls ≠ "java/lang/invoke/VarHandle")
    {mk : MethodId} (hnamed : s.methodNamed? y = some mk) {methM : Method} (hmethM : s.vm.method? mk = some methM) {b : Addr} {cellB : Cell} (hcell : H[b]? = some cellB) (hobj : cellB.vm.isStatics = false) (hcls : s.vm.findClass C = some cellB.cls)
    {g : JFrame} (hg : g.method = m) {argsL rest : List Value} (hlen : argsL.length = methM.sig.parameters.length) (hstack : g.stack = argsL.reverse ++ .ref b :: rest) (hdg : decode c.code g.pc = .ok (.invokevirtual index, 3)) :
    am_Go p l e R s m args below meth c H locs cells slots g rest mk (Value.ref b :: argsL).toArray := by
  intro T hT X
  obtain ⟨mk', methM', hnamed', hmethM', hstM, habM⟩ := Cond.instanceMethod_spec hinst
  cases hnamed.symm.trans hnamed'
  cases hmethM.symm.trans hmethM'
  obtain ⟨c2, r2, m2, q1, q2, q3, q4, kP, hkP, hkPi⟩ := Cond.selects_spec hsel
  cases hcls.symm.trans q1
  cases (State.methodFound?_of_named hnamed hy).symm.trans q2
  cases hnamed.symm.trans q3
  have hselP : selectMethod e.platform s.vm cellB.cls mk = .method mk := by rw [Launch.admits_selectMethod X.admits]; exact q4
  obtain ⟨vm₁, X₁, hstep₁⟩ := X.invokevirtual hx hown hlink hnamed hmethM hstM hkP hkPi hy (a := b) (cell := cellB) (by rw [hT]; exact hcell)
    (fun z h => by rw [h] at hobj; cases hobj) hselP hmethM habM hkP hkPi (g := g) hg (argsL := argsL) (rest := rest) hlen hstack hdg
  exact ⟨vm₁, X₁.warmed, X₁, fun target h => hstep₁ _ fun acts => by rw [doInvoke_state]; exact h⟩
theorem am_goVN (hx : p.tables.exec = Jvm.exec) {own C host : String} {index : Nat} {y : MethodName} (hown : s.vm.findClass own = some m.cls) (hlink : (Cond.methodLinkNest own index y host).before args s = true) (hinst : (Cond.instanceMethod y).before args s = true) (hsel : (Cond.selects C y y).before args s = true) (hy : y.cls ≠ "java/lang/invoke/MethodHandle" ∧ y.cls ≠ "java/lang/invoke/VarHandle")
    {mk : MethodId} (hnamed : s.methodNamed? y = some mk) {methM : Method} (hmethM : s.vm.method? mk = some methM) {b : Addr} {cellB : Cell} (hcell : H[b]? = some cellB) (hobj : cellB.vm.isStatics = false) (hcls : s.vm.findClass C = some cellB.cls)
    {g : JFrame} (hg : g.method = m) {argsL rest : List Value} (hlen : argsL.length = methM.sig.parameters.length) (hstack : g.stack = argsL.reverse ++ .ref b :: rest) (hdg : decode c.code g.pc = .ok (.invokevirtual index, 3)) :
    am_Go p l e R s m args below meth c H locs cells slots g rest mk (Value.ref b :: argsL).toArray := by
  intro T hT X
  obtain ⟨mk', methM', hnamed', hmethM', hstM, habM⟩ := Cond.instanceMethod_spec hinst
  cases hnamed.symm.trans hnamed'
  cases hmethM.symm.trans hmethM'
  obtain ⟨c2, r2, m2, q1, q2, q3, q4, kP, hkP, hkPi⟩ := Cond.selects_spec hsel
  cases hcls.symm.trans q1
  cases (State.methodFound?_of_named hnamed hy).symm.trans q2
  cases hnamed.symm.trans q3
  have hselP : selectMethod e.platform s.vm cellB.cls mk = .method mk := by rw [Launch.admits_selectMethod X.admits]; exact q4
  obtain ⟨vm₁, X₁, hstep₁⟩ := X.invokevirtualNest hx hown hlink hnamed hmethM hstM hkP hkPi hy (a := b) (cell := cellB) (by rw [hT]; exact hcell)
    (fun z h => by rw [h] at hobj; cases hobj) hselP hmethM habM hkP hkPi (g := g) hg (argsL := argsL) (rest := rest) hlen hstack hdg
  exact ⟨vm₁, X₁.warmed, X₁, fun target h => hstep₁ _ fun acts => by rw [doInvoke_state]; exact h⟩
theorem am_goI (hx : p.tables.exec = Jvm.exec) {own : String} {index : Nat} {y : MethodName} {bytes : ByteArray} {maxL : Nat} (hown : s.vm.findClass own = some m.cls) (hy1 : y.name = "<init>") (hlink : (Cond.methodLink own index y).before args s = true) (hinst : (Cond.instanceMethod y).before args s = true) (hcode : (Cond.code y bytes maxL none).before args s = true) (hy : y.cls ≠ "java/lang/invoke/MethodHandle" ∧ y.cls ≠ "java/lang/invoke/VarHandle")
    {mk : MethodId} (hnamed : s.methodNamed? y = some mk) {b : Addr} {g : JFrame} (hg : g.method = m) {argsL rest : List Value} (hlen : ∀ sig, parseMethodDescriptor y.desc = some sig → argsL.length = sig.parameters.length) (hstack : g.stack = argsL.reverse ++ .ref b :: rest) (hdg : decode c.code g.pc = .ok (.invokespecial index, 3)) :
    am_Go p l e R s m args below meth c H locs cells slots g rest mk (Value.ref b :: argsL).toArray := by
  intro T hT X
  subst hg
  have hpl : e.platform.magicAccessors = ({} : Platform).magicAccessors := by rw [X.admits.platform]
  obtain ⟨mk', methM, cM, kP, vm₁, hnamed', hmethM, hcodeM, -, hlocalsM, -, hkP, -, hW₁, hstep₁⟩ := Steps.initColdArgs (e := e) X.here hx X.warmed hpl hown hy1 hy hlink hinst hcode (f := g) rfl hlen hstack hdg
  cases hnamed.symm.trans hnamed'
  exact ⟨vm₁, hW₁, X.noted hW₁, fun target h => hstep₁ _ fun acts => by rw [doInvoke_state]; exact h⟩
/-- the call comes back -/
theorem am_ret {y : MethodName} {Pc : Array Value → State → Prop} {G : am_G} {cl : List vw_C} {xn : Nat → String} {D : va_G} {cA : Nat → ClassId} {b0 b L : Nat} {xs : Nat → Int32} {v : Option Value} {h' : am_H} {mc ms : Nat} {mk : MethodId} {a : Array Value} {g : JFrame} {rest : List Value} {ig : Instr}
    (hgo : am_Go p l e R s m args below meth c H locs cells slots g rest mk a) (hK : Back l R p e below s args y 3 8 (PreOf R mc ms Pc) (PostOf (am_Qc G cl xn D cA b0 b L xs (.inl v) h') mc ms (fun q => b ≤ q))) (hn : s.methodNamed? y = some mk)
    (hg : g.method = m) (hsize : g.locals.size = c.maxLocals) (hdg : decode c.code g.pc = .ok (ig, 3)) (hW : 2 * g.monitorRoom + (rest.map fun v => v.category).sum ≤ 8) (hcells : cells + mc ≤ R.cells) (hslots : slots + ms ≤ R.slots) (hP : ∀ U : State, U.heap = H → s.WarmedH U.vm → Pc a U) (hS : va_S (fun q => b ≤ q) s.heap H locs)
    (k : ∀ (H1 : Heap) (locs1 : List Loc), am_X G cl D cA b0 b L xs h' H1 → va_S (fun q => b ≤ q) s.heap H1 locs1 → W p l e R s m args below meth c H1 locs1 (cells + mc) (slots + ms) Q { g with pc := g.pc + 3, stack := (v.map (am_tv b0 b)).toList ++ rest }) : W p l e R s m args below meth c H locs cells slots Q g := by
  intro T hT X
  obtain ⟨vm₁, hW₁, X₁, hst⟩ := hgo T hT X
  obtain ⟨v9, ⟨U', l2, c2, s2⟩, X', ⟨g', mk', t, Ls, e1, e2, hq, h1, hL, h2, h3⟩, st⟩ := hK m meth c ⟨T.setVm vm₁, locs, cells, slots⟩ { g with stack := rest } ig mk a X₁ hg hsize hdg hW (X₁.named hn) ⟨hcells, hslots, hP (T.setVm vm₁) hT hW₁⟩
  dsimp only [Pt.U, Pt.locs, Pt.cells, Pt.slots] at X' e1 e2 h1 h2 h3 st
  subst h1; subst h2; subst h3
  obtain ⟨hv, hX', hF⟩ := hq
  have hv : Outcome.returned v9 = Outcome.returned (v.map (am_tv b0 b)) := hv
  cases hv
  have hz : H.size ≤ t.heap.size := by have := hF.1; rw [← hT]; exact this
  have hk : ∀ q : Nat, q < H.size → ¬ b ≤ q → t.heap[q]? = H[q]? := fun q u1 u2 => by
    have := hF.2 q (by show q < T.heap.size; rw [hT]; exact u1) u2
    rw [← hT]; exact this
  obtain ⟨t2, x1, x2⟩ := k U'.heap (locs ++ Ls) (by rw [e1]; exact hX') ⟨Nat.le_trans hS.1 (by rw [e1]; exact hz), fun q u1 u2 => by rw [e1, hk q (Nat.lt_of_lt_of_le u1 hS.1) u2]; exact hS.2.1 q u1 u2, fun q hq => by
      rcases List.mem_append.mp hq with h9 | h9
      · exact hS.2.2 q h9
      · exact hL q h9⟩ U' rfl X'
  exact ⟨t2, hst t2 (st.trans x1), x2⟩
end AMC
end
section
/-! Part 24: exceptions -/
section AMT
variable {p : Program} {l : Launch} {e : Env} {R : Room} {s : State} {m : MethodId} {args : Array Value} {below : List Frame} {meth : Method} {c : Code} {T : State} {H : Heap} {locs : List Loc} {cells slots : Nat} {Q : State → Prop}
/-- the method is invoked, and throws -/
theorem am_thr {y : MethodName} {ws : List Cond} {rm : Room} {Pc : Array Value → State → Prop} {Qc : Array Value → State → Outcome → State → Prop} {mc ms : Nat} {free : Addr → Prop} {maxL : Nat} {U : State} {g : JFrame} {ig : Instr} {mk : MethodId} {a : Array Value}
    (hM : am_MX l y ws rm Pc Qc mc ms free) (hblind : FrameBlind Pc) (hrc : rm.cells = mc) (hrs : rm.slots = ms) (hframes : rm.frames + 1 ≤ R.frames) (hlocals : 8 + (maxL + 11) + rm.locals ≤ R.locals)
    (hws : ∀ w ∈ ws, ∀ (a' : Array Value) (U : State), s.WarmedH U.vm → w.before a' U = true) {methY : Method} {cY : Code} (hmY : U.vm.method? mk = some methY) (hcY : methY.code = some cY) (hlY : cY.maxLocals = maxL) (hinit : ∀ (a' : Array Value) (U : State), s.WarmedH U.vm → (Cond.initialized y.cls).before a' U = true)
    (X : Stand p l e R s m args below meth c U locs cells slots) (hg : g.method = m) (hsize : g.locals.size = c.maxLocals) (hdg : decode c.code g.pc = .ok (ig, 3)) (hW : 2 * g.monitorRoom + (g.stack.map fun v => v.category).sum ≤ 8) (hn : U.methodNamed? y = some mk) (hcells : cells + mc ≤ R.cells) (hslots : slots + ms ≤ R.slots) (hP : Pc a U)
    (hthr : ∀ st oc t, Qc a st oc t → ∃ x, oc = .threw x) :
    ∃ (x : Addr) (T' t st0 : State) (Ls : List Loc), Stand p l e R s m args below meth c T' (locs ++ Ls) (cells + mc) (slots + ms) ∧ (∀ q ∈ Ls, free q.base) ∧ T'.heap = t.heap ∧ T'.vm = t.vm ∧ st0.heap = U.heap ∧ Qc a st0 (.threw x) t ∧
      Steps p.tables e below (doInvoke e (U.setTop g) [] mk a).1 ((T'.setTop g).pushFrame (.throwing x)) := by
  obtain ⟨kY, hkY, -⟩ := className_of_methodNamed hn
  have hinitY : kY.init = .initialized := Cond.initialized_spec (findClass_of_methodNamed hn) hkY (hinit a U X.warmed)
  have h : At U g.method c below := by rw [hg]; exact X.here
  have happ : (headSpec ws rm).appliesLoose y e.platform (U.calling g mk a) = true :=
    Spec.appliesLoose_calling (g := g) h hdg hn hkY hinitY
      (X.room_calling (g := g) (R' := (headSpec ws rm).room) hsize hmY hcY hframes (by rw [hlY]; show 2 * g.monitorRoom + _ + (maxL + 11) + rm.locals ≤ _; omega) (by show cells + rm.cells ≤ _; rw [hrc]; exact hcells) (by show slots + rm.slots ≤ _; rw [hrs]; exact hslots)) (atoms_intro fun w hw => hws w hw _ _ X.warmed)
  obtain ⟨mid, hmid⟩ := h.above
  have hfr : (U.setTop g).frames = (.java g :: mid) ++ below := by rw [State.frames_setTop' g h.top, hmid]; rfl
  obtain ⟨o, s₂, hsteps, -, hend, hq, Ls, ⟨hW2, hsame⟩, hL⟩ := Steps.callFree hM p X.admits X.cas X.clock (acts := []) hfr happ (hblind _ _ _ _ hP) trivial
  rw [State.frames_setTop' g h.top] at hend
  obtain ⟨x, rfl⟩ := hthr _ _ _ hq
  rw [X.tail] at hend
  obtain ⟨sameA, sameB, hcl, hsl, hcl2, hsl2⟩ := id hsame
  obtain ⟨T', X', hW', hsame', ht⟩ := X.outOfThrown hg hend hW2 hsame
  refine ⟨x, T', s₂, (U.setTop g).pushFrame (.invoking mk a), Ls, X', hL, ?_, ?_, rfl, hq, ?_⟩
  · rw [ht]; rfl
  · rw [ht]; rfl
  · rw [← ht]; exact hsteps
theorem am_fg_hit {Qh : Handler → Pre} {E : CtlPost} {d9 : Bool} {acts : List Action} {u : State} {f : JFrame} {a : Addr} {x : ExceptionTableEntry} {t : List ExceptionTableEntry} {cT : ClassId} {cell : Cell} (hx : covers x f.pc = true) (h0 : x.catchType ≠ 0) (hl : u.vm.ClassLinks e.platform f.method.cls x.catchType cT) (hcell : u.heap[a]? = some cell) (hobj : ∀ k, cell.vm ≠ .statics k)
    (hk : ∃ k, u.vm.classes[cell.cls]? = some k) (hc : ∃ k, u.vm.classes[cT]? = some k) (hfit : u.vm.assignable cell.cls cT = true) :
    wp (findHandler.go f a (x :: t)) Qh E e d9 acts u ↔ Qh (.found x.handlerPc) d9 acts (u.setVm (u.vm.noted f.method.cls x.catchType (.cls cT))) := by
  simp only [covers] at hx
  obtain ⟨ha, ht⟩ := (resolveClass_links e.toSetting hl).op (op := VmOp.resolveClass f.method.cls x.catchType) rfl
  have hal : u.vm.Alike (u.vm.noted f.method.cls x.catchType (.cls cT)) := (Vm.Alike.refl u.vm).noted _ _ _
  obtain ⟨k1, hk1⟩ := hk
  obtain ⟨k2, hk2⟩ := hc
  obtain ⟨k3, hk3, -⟩ := hal.2.2 _ _ hk1
  obtain ⟨k4, hk4, -⟩ := hal.2.2 _ _ hk2
  have hf : (u.vm.noted f.method.cls x.catchType (.cls cT)).assignable cell.cls cT = true := by rw [hal.assignable]; exact hfit
  simp [findHandler.go, hx, h0, ha, ht, hcell, hobj, hk3, hk4, hf, VmOp.dirties, VmOp.acts]
theorem am_fg_miss {Qh : Handler → Pre} {E : CtlPost} {d9 : Bool} {acts : List Action} {u : State} {f : JFrame} {a : Addr} {x : ExceptionTableEntry} {t : List ExceptionTableEntry} {cT : ClassId} {cell : Cell} (hx : covers x f.pc = true) (h0 : x.catchType ≠ 0) (hl : u.vm.ClassLinks e.platform f.method.cls x.catchType cT) (hcell : u.heap[a]? = some cell) (hobj : ∀ k, cell.vm ≠ .statics k)
    (hk : ∃ k, u.vm.classes[cell.cls]? = some k) (hc : ∃ k, u.vm.classes[cT]? = some k) (hfit : u.vm.assignable cell.cls cT = false) :
    wp (findHandler.go f a (x :: t)) Qh E e d9 acts u ↔ wp (findHandler.go f a t) Qh E e d9 acts (u.setVm (u.vm.noted f.method.cls x.catchType (.cls cT))) := by
  simp only [covers] at hx
  obtain ⟨ha, ht⟩ := (resolveClass_links e.toSetting hl).op (op := VmOp.resolveClass f.method.cls x.catchType) rfl
  have hal : u.vm.Alike (u.vm.noted f.method.cls x.catchType (.cls cT)) := (Vm.Alike.refl u.vm).noted _ _ _
  obtain ⟨k1, hk1⟩ := hk
  obtain ⟨k2, hk2⟩ := hc
  obtain ⟨k3, hk3, -⟩ := hal.2.2 _ _ hk1
  obtain ⟨k4, hk4, -⟩ := hal.2.2 _ _ hk2
  have hf : (u.vm.noted f.method.cls x.catchType (.cls cT)).assignable cell.cls cT = false := by rw [hal.assignable]; exact hfit
  conv => lhs; unfold findHandler.go
  simp [hx, h0, ha, ht, hcell, hobj, hk3, hk4, hf, VmOp.dirties, VmOp.acts]
/-- the search through a table of handlers: f: the class that a place of the pool names; x: the exception's class -/
theorem am_find {f9 : Nat → Nat} {xn : Nat → String} {own : String} {x t : Nat} {g : JFrame} {a : Addr} {cell : Cell} {cX : ClassId} (hg : g.method = m) (hown : s.vm.findClass own = some m.cls) (hpl : e.platform.magicAccessors = ({} : Platform).magicAccessors) (hcX : s.vm.findClass (xn x) = some cX) (hcls : cell.cls = cX) (hobj : cell.vm.isStatics = false) (hself : s.vm.assignable cX cX = true) :
    ∀ (tb : List ExceptionTableEntry) (u : State), s.WarmedH u.vm → u.heap[a]? = some cell → (∀ y ∈ tb, y.catchType ≠ 0 ∧ (Cond.classLink own y.catchType (xn (f9 y.catchType))).before args s = true ∧ (f9 y.catchType ≠ x → va_Nc (xn x) (xn (f9 y.catchType)) s)) →
      am_hf f9 (tb.map (fun h => (h.startPc, h.endPc, h.handlerPc, h.catchType))) g.pc x = some t → ∃ vm' : Vm, s.WarmedH vm' ∧ ∀ (Qh : Handler → Pre) (E : CtlPost) (d9 : Bool) (acts : List Action), wp (findHandler.go g a tb) Qh E e d9 acts u ↔ Qh (.found t) d9 acts (u.setVm vm') := by
  intro tb
  induction tb with
  | nil =>
    intro u _ _ _ h
    cases h
  | cons y r ih =>
    intro u hW hcell hall hf
    obtain ⟨h0, hlink, hnot⟩ := hall y List.mem_cons_self
    have hall' := fun z hz => hall z (List.mem_cons_of_mem _ hz)
    by_cases hcov : covers y g.pc = true
    · have hcov2 : y.startPc ≤ g.pc ∧ g.pc < y.endPc := by
        have := hcov
        simp only [covers, Bool.and_eq_true, decide_eq_true_eq] at this
        exact this
      obtain ⟨cT, hcT, hcl⟩ := Cond.classLink_spec hown hlink e.platform hpl
      obtain ⟨dk, _, _, kt, hd, _, _, _, _, hkt, _, hopen⟩ := hcl.here
      have hcl2 := hW.classLinks hcl
      have hW' : s.WarmedH (u.vm.noted m.cls y.catchType (.cls cT)) := hW.noted hd hopen (State.rightAt_cls hcl)
      have hal := hW.alike
      obtain ⟨kt', hkt', -⟩ := hal.2.2 _ _ hkt
      obtain ⟨kX, hkX⟩ := Vm.classAt_of_findClass hcX
      obtain ⟨kX', hkX', -⟩ := hal.2.2 _ _ hkX
      subst hg
      subst hcls
      by_cases hxx : f9 y.catchType = x
      · rw [hxx] at hcT
        cases hcX.symm.trans hcT
        have ht : y.handlerPc = t := by
          have h9 : (some y.handlerPc : Option Nat) = some t := by
            rw [← hf]
            exact (if_pos ⟨hcov2.1, hcov2.2, hxx⟩).symm
          exact Option.some.inj h9
        subst ht
        exact ⟨_, hW', fun Qh E d9 acts => am_fg_hit hcov h0 hcl2 hcell (VmData.ne_statics_of hobj) ⟨kX', hkX'⟩ ⟨kt', hkt'⟩ (by rw [hal.assignable]; exact hself)⟩
      · obtain ⟨c1, c2, n1, n2, n3⟩ := hnot hxx
        cases hcX.symm.trans n1
        cases hcT.symm.trans n2
        have hf' : am_hf f9 (r.map (fun h => (h.startPc, h.endPc, h.handlerPc, h.catchType))) g.pc x = some t := by
          rw [← hf]
          exact (if_neg (fun z => hxx z.2.2)).symm
        obtain ⟨vm', q1, q2⟩ := ih (u.setVm (u.vm.noted g.method.cls y.catchType (.cls cT))) hW' hcell hall' hf'
        exact ⟨vm', q1, fun Qh E d9 acts => (am_fg_miss hcov h0 hcl2 hcell (VmData.ne_statics_of hobj) ⟨kX', hkX'⟩ ⟨kt', hkt'⟩ (by rw [hal.assignable]; exact n3)).trans (q2 Qh E d9 acts)⟩
    · have hcov : covers y g.pc = false := by
        cases h : covers y g.pc
        · rfl
        · exact absurd h hcov
      have hf' : am_hf f9 (r.map (fun h => (h.startPc, h.endPc, h.handlerPc, h.catchType))) g.pc x = some t := by
        rw [← hf]
        refine (if_neg (fun z => ?_)).symm
        have : covers y g.pc = true := by
          simp only [covers, Bool.and_eq_true, decide_eq_true_eq]
          exact ⟨z.1, z.2.1⟩
        rw [hcov] at this
        cases this
      obtain ⟨vm', q1, q2⟩ := ih u hW hcell hall' hf'
      exact ⟨vm', q1, fun Qh E d9 acts => by rw [W.findHandler_go_skip hcov]; exact q2 Qh E d9 acts⟩
/-- an exception over the method's own frame, and a handler for it -/
theorem am_catch (X : Stand p l e R s m args below meth c T locs cells slots) {f9 : Nat → Nat} {xn : Nat → String} {own : String} {x t : Nat} {g : JFrame} {a : Addr} {cell : Cell} {cX : ClassId} (hg : g.method = m) (hown : s.vm.findClass own = some m.cls) (hcX : s.vm.findClass (xn x) = some cX) (hcls : cell.cls = cX) (hobj : cell.vm.isStatics = false) (hself : s.vm.assignable cX cX = true) (hcell : T.heap[a]? = some cell)
    (hall : ∀ y ∈ c.exceptionTable.toList, y.catchType ≠ 0 ∧ (Cond.classLink own y.catchType (xn (f9 y.catchType))).before args s = true ∧ (f9 y.catchType ≠ x → va_Nc (xn x) (xn (f9 y.catchType)) s))
    (hf : am_hf f9 (c.exceptionTable.toList.map (fun h => (h.startPc, h.endPc, h.handlerPc, h.catchType))) g.pc x = some t) :
    ∃ vm' : Vm, Stand p l e R s m args below meth c (T.setVm vm') locs cells slots ∧ ∀ target, Steps p.tables e below ((T.setVm vm').setTop { g with pc := t, stack := [.ref a] }) target → Steps p.tables e below ((T.setTop g).pushFrame (.throwing a)) target := by
  have hpl : e.platform.magicAccessors = ({} : Platform).magicAccessors := by rw [X.admits.platform]
  obtain ⟨vm', hW', hfind⟩ := am_find (g := g) (a := a) hg hown hpl hcX hcls hobj hself c.exceptionTable.toList ((T.setTop g).pushFrame (.throwing a)) X.warmed hcell hall hf
  refine ⟨vm', X.noted hW', fun target hrest => ?_⟩
  subst hg
  have h := X.here
  obtain ⟨hgo, hw⟩ := h.throwing a
  refine Steps.head hgo hw ?_
  have hcatch : (stepThrowing e ((T.setTop g).pushFrame (.throwing a)) a (.java g :: T.frames.tail)).Is ((((T.setTop g).pushFrame (.throwing a)).setVm vm').setFrames (.java { g with pc := t, stack := [.ref a] } :: T.frames.tail)) [] := by
    simp only [stepThrowing, searchFrame, vmDo]
    generalize hr : Sem.go _ e false [] ((T.setTop g).pushFrame (.throwing a)) = res
    obtain ⟨as, rfl, ha⟩ := Sem.eq_ok_of hr (a := Handler.found t) (s' := ((T.setTop g).pushFrame (.throwing a)).setVm vm') (acts' := []) (by simp [W.findHandler_eq (s := (T.setTop g).pushFrame (.throwing a)) X.method' X.code, hfind _ _ _ _])
    exact ⟨rfl, ha⟩
  rw [stepThread_throwing (frames_entered h.top _), hcatch.1]
  obtain ⟨g₀, hg⟩ := Option.isSome_iff_exists.mp h.top
  obtain ⟨r, hr⟩ := State.topJava?_eq_some.mp hg
  have hr' : (T.setVm vm').frames = .java g₀ :: r := hr
  rw [State.setTop_of_frames _ hr'] at hrest
  have e5 : ∀ (u : State) (F F2 : List Frame), ((u.setFrames F).setVm vm').setFrames F2 = (u.setVm vm').setFrames F2 := fun u F F2 => by
    have h1 : (u.setFrames F).setVm vm' = (u.setVm vm').setFrames F := rfl
    rw [h1, State.setFrames_setFrames]
  rw [hr, List.tail_cons, State.pushFrame, e5, State.setTop_of_frames _ hr, e5]
  exact hrest
/-- the walk, begun anew where it stands -/
theorem am_rebase (X : Stand p l e R s m args below meth c T locs cells slots) (hcn : cells + 1 ≤ R.cells) (hun : slots + 6 ≤ R.slots) : Stand p l e { frames := R.frames, cells := 1, slots := 6, locals := R.locals } (T.setFrames (.invoking m args :: below)) m args below meth c T [] 0 0 := by
  obtain ⟨g₀, hfr⟩ := X.frames_eq
  have hcur : T.cur < T.threads.size := State.cur_lt_of_frames hfr
  have hF : (T.setFrames (.invoking m args :: below)).frames = .invoking m args :: below := State.frames_setFrames _ hcur
  have hlim : e.platform.stackLimits (T.setFrames (.invoking m args :: below)).me = e.platform.stackLimits s.me := by rw [State.stackLimits_setFrames]; exact X.limits
  have hby : (T.setFrames (.invoking m args :: below)).me.stackBytes = s.me.stackBytes := by rw [State.stackBytes_setFrames]; exact X.bytes
  refine ⟨X.admits, X.cas, X.clock, hF, ?_, ?_, X.method', X.code, X.here, X.tail, State.WarmedH.refl (T.setFrames (.invoking m args :: below)), by rw [State.stackLimits_setFrames], by rw [State.stackBytes_setFrames], ?_⟩
  · have hr := X.room
    have e1 := State.localsInUse_invoking X.frames X.method X.code
    have e2 := State.localsInUse_invoking (s := T.setFrames (.invoking m args :: below)) hF X.method' X.code
    have h3 := X.cellsAbove hcn
    have h4 := X.slotsAbove hun
    have h5 : (T.setFrames (.invoking m args :: below)).slotsTrue = true := X.book
    simp only [State.hasRoom, Bool.and_eq_true, decide_eq_true_eq] at hr ⊢
    rw [hF, hlim, hby, e2]
    rw [X.frames, e1] at hr
    exact ⟨⟨⟨⟨hr.1.1.1.1, hr.1.1.1.2⟩, h3⟩, h4⟩, h5⟩
  · have hv : ∀ F : List Frame, (T.setFrames F).vm = T.vm := fun _ => rfl
    have ha := X.warmed.alike
    have hh := X.hears
    unfold State.hears at hh ⊢
    split at hh
    · rw [State.code?_eq] at hh ⊢
      rw [hv, ha.method?]
      exact hh
    · rfl
    · rfl
    · rw [hv, ha.method?]
      exact hh
  · obtain ⟨t, ht, -⟩ := State.frames_cons hfr
    obtain ⟨t2, ht2, -⟩ := State.frames_cons hF
    have h := (State.sameButNew.refl (T.setFrames (.invoking m args :: below)) ht2).setFrames T.frames (State.cur_lt_of_frames hF)
    rw [State.setFrames_setFrames, State.setFrames_self ht] at h
    exact h
set_option maxHeartbeats 1000000 in
/-- new X; dup; X.<init>(); athrow -/
theorem am_thr_new {G : am_G} {cl : List vw_C} {xn : Nat → String} {D : va_G} {cA : Nat → ClassId} {b0 b L : Nat} {xs : Nat → Int32} {h : am_H} {cc : ByteArray} {pc idx ic x mL : Nat} {ls : Array Slot} {st : List Value} {own : String} (htr : l.stackTraces = false) (hx : p.tables.exec = Jvm.exec) (hb : c.code = cc) (hml : c.maxLocals = mL) (hown : s.vm.findClass own = some m.cls)
    (hat : ∀ U : State, U.heap = H → s.WarmedH U.vm → (Cond.classLink own idx (xn x)).before args U = true ∧ (Cond.initialized (xn x)).before args U = true ∧ ∀ w ∈ Bundle.ownAtoms0 own ic (xn x) ["java/lang/RuntimeException", "java/lang/Exception"], w.before args U = true) (hfit : Bundle.fit (xn x) = true)
    (hd : decode cc pc = .ok (.new idx, 3)) (hd3 : decode cc (pc + 3) = .ok (.dup, 1)) (hd4 : decode cc (pc + 4) = .ok (.invokespecial ic, 3)) (hd7 : decode cc (pc + 7) = .ok (.athrow, 1)) (htab : c.exceptionTable.toList.map (fun h => (h.startPc, h.endPc, h.handlerPc, h.catchType)) = []) (hlk : meth.locks = false)
    (hcn : cells + 1 ≤ R.cells) (hun : slots + 6 ≤ R.slots) (hfr : 5 < R.frames) (hlo : am_w8 st + 81 ≤ R.locals) (hls : ls.size = mL) (hX : am_X G cl D cA b0 b L xs h H) (hS : va_S (fun q => b ≤ q) s.heap H locs) :
    W p l e R s m args below meth c H locs cells slots (am_MQ below (am_Qc G cl xn D cA b0 b L xs (.inr x) (am_setG h (am_g h + 1))) args s R.cells R.slots (fun q => b ≤ q)) (F0 m pc ls (st.map (am_tv b0 b))) := by
  intro T hT X
  have X9 := am_rebase X hcn hun
  obtain ⟨w1, w2, w3⟩ := hat (T.setFrames (.invoking m args :: below)) hT X.warmed
  have htr' : e.platform.stackTraces = false := by rw [X.admits.platform]; exact htr
  have hown9 : (T.setFrames (.invoking m args :: below)).vm.findClass own = some m.cls := by
    show T.vm.findClass own = some m.cls
    rw [X.warmed.alike.findClass]
    exact hown
  have hinst : (Cond.instantiable (xn x) 6).before args (T.setFrames (.invoking m args :: below)) = true := w3 _ (by simp [Bundle.ownAtoms0])
  obtain ⟨cX, kX0, hfX, hkX0, -⟩ := Cond.instantiable_spec hinst
  have hsz : H.size = b + (am_n h + am_g h) := by rw [hX.2.1]; omega
  have hout : ∀ y ∈ c.exceptionTable.toList, covers y (pc + 4 + 3) = false := by
    intro y hy
    have : c.exceptionTable.toList = [] := List.map_eq_nil_iff.mp htab
    rw [this] at hy
    cases hy
  have key : W p l e { frames := R.frames, cells := 1, slots := 6, locals := R.locals } (T.setFrames (.invoking m args :: below)) m args below meth c H [] 0 0 (fun U => U.status = .running ∧ Ended U below (.threw H.size) ∧ T.WarmedH U.vm ∧ (T.setFrames (.invoking m args :: below)).sameButNew ({ U with vm := T.vm } : State) [] 1 6 ∧ ∃ ce : Cell, U.heap[H.size]? = some ce ∧ ce.vm = .none ∧ T.vm.findClass (xn x) = some ce.cls) (F0 m pc ls (st.map (am_tv b0 b))) := by
    refine W.newcK (n := 6) hx hb hown9 w1 hinst w2 rfl hd (by show 0 + 1 ≤ 1; omega) (by show 0 + 6 ≤ 6; omega) hfX rfl fun H1 kX hkX e1 z1 o1 => ?_
    refine lv_dup (pc := pc + 3) hx hb hd3 rfl ?_
    intro T2 hT2 X2
    obtain ⟨U, hsteps, hrun, hend, hW, hsame, ce, hce, K⟩ := X2.ctorThrow0 hx htr' (own := own) (cls := xn x) (names := ["java/lang/RuntimeException", "java/lang/Exception"]) (ic := ic) hown9 hfit (by decide +kernel) w3 (fun y hy => by cases hy) hfX hkX (a := H.size) (by rw [hT2]; exact e1) (by show T.heap.size ≤ H.size; rw [hT]; exact Nat.le_refl _)
      (g := F0 m (pc + 4) ls (.ref H.size :: .ref H.size :: st.map (am_tv b0 b))) rfl (by rw [hml]; exact hls) rfl rfl (rest := st.map (am_tv b0 b)) rfl (by rw [hb]; exact hd4) (by rw [hb]; exact hd7) hout (by show 2 + 3 < R.frames; omega) (by
        show 2 * 0 + ((Value.ref H.size :: st.map (am_tv b0 b)).map fun v => v.category).sum + (13 * (2 + 1) + 41) ≤ R.locals
        have e9 : ((Value.ref H.size :: st.map (am_tv b0 b)).map fun v => v.category).sum = 1 + am_w8 st := by
          rw [List.map_cons, List.sum_cons, am_w8_map]
          rfl
        rw [e9]
        omega) hlk
    exact ⟨U, hsteps, hrun, hend, hW, hsame, ce, hce, K.vm, K.cls⟩
  obtain ⟨U, hst, h1, h2, h3, h4, ce, h5, h6, h7⟩ := key T hT X9
  have hold : ∀ q : Nat, q < H.size → U.heap[q]? = H[q]? := fun q hq => by
    obtain ⟨c9, hc9⟩ : ∃ c9, H[q]? = some c9 := ⟨H[q], Array.getElem?_eq_getElem hq⟩
    rw [hc9]
    exact h4.old_cell (a := q) (c := c9) (by show T.heap[q]? = some c9; rw [hT]; exact hc9)
  have hsz2 : U.heap.size = H.size + 1 := by
    have g1 : U.heap.size ≤ T.heap.size + 1 := h4.2.2.1
    have g2 := (Array.getElem?_eq_some_iff.mp h5).1
    rw [hT] at g1
    omega
  have hB : T.sameButNew (U.setVm T.vm) [] 1 6 := by
    obtain ⟨q1, q2⟩ := h4
    refine ⟨?_, q2⟩
    rw [State.setFrames_setFrames] at q1
    exact q1
  refine ⟨U, hst, .threw H.size, h1, h2, ⟨⟨ce, ?_, ?_, h6, ?_⟩, ⟨?_, ?_, ?_, ?_, ?_⟩, ?_, ?_⟩, locs ++ [], ⟨State.WarmedH.trans X.warmed h3, (X.same.trans (hB.setVm s.vm)).mono hcn hun⟩, fun q hq => ?_⟩
  · show Outcome.threw H.size = .threw (am_ad b0 b (am_n h + (am_g h + 1)))
    rw [hsz]
    rfl
  · show U.heap[am_ad b0 b (am_n h + (am_g h + 1))]? = some ce
    rw [show am_ad b0 b (am_n h + (am_g h + 1)) = b + (am_n h + am_g h) from rfl, ← hsz]
    exact h5
  · rw [h3.alike.findClass]
    exact h7
  · exact hX.1.kept (fun k q hk => hold q.1 ((hX.1 k q hk).lt))
  · rw [hsz2, hsz]
    show b + (am_n h + am_g h) + 1 = b + am_n h + (am_g h + 1)
    omega
  · exact hX.2.2.1
  · exact hX.2.2.2.1
  · intro q ce9 hb9 hc9
    by_cases hq : q < H.size
    · rw [hold q hq] at hc9
      exact hX.2.2.2.2 q ce9 hb9 hc9
    · have : q = H.size := by
        have := (Array.getElem?_eq_some_iff.mp hc9).1
        omega
      subst this
      cases h5.symm.trans hc9
      rw [h6]
      rfl
  · rw [hsz2]
    exact Nat.le_succ_of_le hS.1
  · intro q u1 u2
    rw [hold q (Nat.lt_of_lt_of_le u1 hS.1)]
    exact hS.2.1 q u1 u2
  · rw [List.append_nil] at hq
    exact hS.2.2 q hq
end AMT
end
section
/-! Part 25: the machine of part 10 is sound -/
def am_cw (M : am_M) : Cond := match am_hs M with
  | [] => .code (am_y M) (am_b M) (am_mL M) (am_rt M)
  | q :: r => .codeWith (am_y M) (am_b M) (am_mL M) (am_rt M) (q :: r)
def am_rm (d : Nat) (M : am_M) : Room := { frames := d, cells := am_mc M, slots := am_ms M, locals := 40 * d }
/-- a method of the program -/
def am_okm (G : am_G) (own : Nat → String) (WS : List Cond) (j : Nat) : Prop :=
  plainFor (am_y (am_mt G j)) = true ∧ (am_y (am_mt G j)).cls = own (am_o (am_mt G j)) ∧ ((am_y (am_mt G j)).cls ≠ "java/lang/invoke/MethodHandle" ∧ (am_y (am_mt G j)).cls ≠ "java/lang/invoke/VarHandle") ∧
  (parseMethodDescriptor (am_y (am_mt G j)).desc).map (fun d => d.parameters.length) = some (am_np (am_mt G j)) ∧ am_mL (am_mt G j) ≤ 21 ∧ Cond.initialized (am_y (am_mt G j)).cls ∈ WS ∧ am_cw (am_mt G j) ∈ WS
/-- a word that stays true while the tables get warmer -/
def am_gw (w : Cond) : Prop := ∀ (s U : State) (args a' : Array Value), s.WarmedH U.vm → w.before args s = true → w.before a' U = true
/-- words on statics of Throwable, which look at the heap too -/
def am_zw : List Cond := [.isRef (.static Bundle.tN "UNASSIGNED_STACK" Bundle.steD), .isRef (.static Bundle.tN "SUPPRESSED_SENTINEL" Bundle.listD), .laysStatic Bundle.tN "UNASSIGNED_STACK" Bundle.steD, .laysStatic Bundle.tN "SUPPRESSED_SENTINEL" Bundle.listD]
/-- the words hold what the machine takes for granted -/
def am_WF (G : am_G) (cl : List vw_C) (own : Nat → String) (xn : Nat → String) (host : String) (WS : List Cond) : Prop :=
  (∀ w ∈ WS, am_gw w) ∧
  (∀ o idx ci fi, am_pl G o idx = (1, ci, fi, 0) → am_ok G cl own WS ci) ∧
  (∀ o idx ci x y, am_pl G o idx = (3, ci, x, y) → am_ok G cl own WS ci ∧ Cond.classLink (own o) idx (own ci) ∈ WS ∧ Cond.instantiable (own ci) (am_nf G ci) ∈ WS ∧ Cond.initialized (own ci) ∈ WS) ∧
  (∀ o idx x t y, am_pl G o idx = (3, x, t, y) → (t = 103 ∨ t = 104) → Cond.classLink (own o) idx (own (am_ac G t)) ∈ WS ∧ Cond.arrayOver (.object (own (am_ac G t))) ∈ WS) ∧
  (∀ t, t = 103 ∨ t = 104 → am_ok G cl own WS (am_ac G t)) ∧
  (Cond.arrayClass (newarray.typeOf .int) ∈ WS ∧ Cond.arrayClass (newarray.typeOf .boolean) ∈ WS ∧ Cond.arrayClass (newarray.typeOf .long) ∈ WS) ∧
  (∀ o idx x, am_kc G o idx = some (.int x) → Jvm.Cond.constant (own o) idx x ∈ WS) ∧ (∀ o idx x, am_kc G o idx = some (.long x) → Jvm.Cond.constantLong (own o) idx x ∈ WS) ∧
  (∀ o idx j z, am_pl G o idx = (2, j, 0, z) → am_okm G own WS j ∧ am_hs (am_mt G j) = [] ∧ (∃ T, cl[am_o (am_mt G j)]? = some (own (am_o (am_mt G j)), T, am_nf G (am_o (am_mt G j)))) ∧ am_o (am_mt G j) < 100 ∧ Cond.methodLink (own o) idx (am_y (am_mt G j)) ∈ WS ∧ Cond.instanceMethod (am_y (am_mt G j)) ∈ WS ∧ Cond.selects (am_y (am_mt G j)).cls (am_y (am_mt G j)) (am_y (am_mt G j)) ∈ WS) ∧
  (∀ o idx j z, am_pl G o idx = (2, j, 3, z) → am_okm G own WS j ∧ am_hs (am_mt G j) = [] ∧ (∃ T, cl[am_o (am_mt G j)]? = some (own (am_o (am_mt G j)), T, am_nf G (am_o (am_mt G j)))) ∧ am_o (am_mt G j) < 100 ∧ Cond.methodLinkNest (own o) idx (am_y (am_mt G j)) host ∈ WS ∧ Cond.instanceMethod (am_y (am_mt G j)) ∈ WS ∧ Cond.selects (am_y (am_mt G j)).cls (am_y (am_mt G j)) (am_y (am_mt G j)) ∈ WS) ∧
  (∀ o idx j z, am_pl G o idx = (2, j, 1, z) → am_okm G own WS j ∧ Cond.methodLink (own o) idx (am_y (am_mt G j)) ∈ WS ∧ Cond.static (am_y (am_mt G j)) ∈ WS) ∧
  (∀ o idx j z, am_pl G o idx = (2, j, 4, z) → am_okm G own WS j ∧ Cond.methodLinkNest (own o) idx (am_y (am_mt G j)) host ∈ WS ∧ Cond.static (am_y (am_mt G j)) ∈ WS) ∧
  (∀ o idx j z, am_pl G o idx = (2, j, 2, z) → am_okm G own WS j ∧ am_hs (am_mt G j) = [] ∧ am_rt (am_mt G j) = none ∧ (am_y (am_mt G j)).name = "<init>" ∧ Cond.methodLink (own o) idx (am_y (am_mt G j)) ∈ WS ∧ Cond.instanceMethod (am_y (am_mt G j)) ∈ WS) ∧
  (∀ o idx x y z, am_pl G o idx = (7, x, y, z) → Cond.methodLink (own o) idx Lib.objectInit ∈ WS ∧ Cond.instanceMethod Lib.objectInit ∈ WS ∧ Cond.code Lib.objectInit ⟨#[0xb1]⟩ 1 none ∈ WS) ∧
  (∀ o idx x y z, am_pl G o idx = (8, x, y, z) → Cond.methodLink (own o) idx arraycopyName ∈ WS ∧ Cond.native arraycopyName ∈ WS ∧ Cond.static arraycopyName ∈ WS ∧ Cond.initialized "java/lang/System" ∈ WS) ∧
  (∀ o idx x y z, am_pl G o idx = (10, x, y, z) → Cond.methodLink (own o) idx Lib.Math.min.name ∈ WS ∧ Cond.static Lib.Math.min.name ∈ WS ∧ Cond.initialized "java/lang/Math" ∈ WS ∧ Cond.code Lib.Math.min.name Lib.Math.min.code 2 (some .int) ∈ WS) ∧
  (∀ o idx x y z, am_pl G o idx = (11, x, y, z) → Cond.methodLink (own o) idx Lib.Math.max.name ∈ WS ∧ Cond.static Lib.Math.max.name ∈ WS ∧ Cond.initialized "java/lang/Math" ∈ WS ∧ Cond.code Lib.Math.max.name Lib.Math.max.code 2 (some .int) ∈ WS) ∧
  (∀ j, ∀ q ∈ am_hs (am_mt G j), q.2.2.2 ≠ 0 ∧ Cond.classLink (own (am_o (am_mt G j))) q.2.2.2 (xn (am_pl G (am_o (am_mt G j)) q.2.2.2).2.1) ∈ WS ∧ (am_pl G (am_o (am_mt G j)) q.2.2.2).2.1 < 4 ∧ ∀ x, x < 4 → Cond.castable (xn x) (xn x) ∈ WS) ∧
  (∀ o idx x ic z, am_pl G o idx = (5, x, ic, z) → x < 4 ∧ Cond.classLink (own o) idx (xn x) ∈ WS ∧ Cond.initialized (xn x) ∈ WS ∧ Bundle.fit (xn x) = true ∧ ∀ w ∈ Bundle.ownAtoms0 (own o) ic (xn x) ["java/lang/RuntimeException", "java/lang/Exception"], w ∈ WS ∨ w ∈ am_zw)
section AMS
variable {p : Program} {l : Launch} {e : Env} {R : Room} {s : State} {m : MethodId} {args : Array Value} {below : List Frame} {meth : Method} {c : Code} {H : Heap} {locs : List Loc} {Qf : State → Prop}
variable {G : am_G} {cl : List vw_C} {own xn : Nat → String} {host : String} {WS : List Cond} {D : va_G} {cA : Nat → ClassId} {b0 b L : Nat} {xs : Nat → Int32} {Z : State → Prop} {M : am_M}
theorem am_named (hw : (am_cw M).before args s = true) : ∃ mk methM cM, s.methodNamed? (am_y M) = some mk ∧ s.vm.method? mk = some methM ∧ methM.code = some cM ∧ cM.maxLocals = am_mL M ∧ parseMethodDescriptor (am_y M).desc = some methM.sig := by
  unfold am_cw at hw
  split at hw
  · obtain ⟨mk, hn⟩ := Cond.code_named hw
    obtain ⟨methM, cM, h1, h2, -, h4, -, -, -, h8⟩ := Cond.code_spec hn hw
    exact ⟨mk, methM, cM, hn, h1, h2, h4, h8⟩
  · obtain ⟨mk, methM, cM, hn, h1, h2, -, h4, -, -, -, h8⟩ := Cond.codeWith_spec hw
    exact ⟨mk, methM, cM, hn, h1, h2, h4, h8⟩
theorem am_tab (hw : (am_cw M).before args s = true) (hn : s.methodNamed? (am_y M) = some m) (hm : s.vm.method? m = some meth) (hc : meth.code = some c) : c.exceptionTable.toList.map (fun h => (h.startPc, h.endPc, h.handlerPc, h.catchType)) = am_hs M := by
  unfold am_cw at hw
  split at hw
  · rename_i hs
    obtain ⟨meth', c', hm', hc', -, -, -, -, he', -⟩ := Cond.code_spec hn hw
    cases hm.symm.trans hm'
    cases hc.symm.trans hc'
    rw [hs]
    have : c.exceptionTable = #[] := by simpa using he'
    rw [this]
    rfl
  · rename_i q r hs
    obtain ⟨mk, meth', c', hn', hm', hc', -, -, ht, -, -, -⟩ := Cond.codeWith_spec hw
    cases hn.symm.trans hn'
    cases hm.symm.trans hm'
    cases hc.symm.trans hc'
    rw [hs]
    exact ht
theorem am_words (hgood : ∀ w ∈ WS, am_gw w) {j : Nat} (hok : am_okm G own WS j) (hts : ∀ w ∈ WS, w.before args s = true) : ∀ w ∈ am_cw (am_mt G j) :: WS, ∀ (a' : Array Value) (U : State), s.WarmedH U.vm → w.before a' U = true := fun w hw a' U hW => by
  have hw' : w ∈ WS := by
    rcases List.mem_cons.mp hw with h | h
    · rw [h]; exact hok.2.2.2.2.2.2
    · exact h
  exact hgood w hw' _ _ _ _ hW (hts w hw')
theorem am_back (hgood : ∀ w ∈ WS, am_gw w) {j : Nat} (hok : am_okm G own WS j) (hts : ∀ w ∈ WS, w.before args s = true) {rm : Room} {Pc : Array Value → State → Prop} {Qc : Array Value → State → Outcome → State → Prop} {mc ms : Nat} {free : Addr → Prop}
    (hM : Met l (am_y (am_mt G j)) (am_cw (am_mt G j) :: WS) rm Pc Qc mc ms free) (hblind : FrameBlind Pc) (hrc : rm.cells = mc) (hrs : rm.slots = ms) (hfr : rm.frames + 1 ≤ R.frames) (hlo : 8 + (am_mL (am_mt G j) + 11) + rm.locals ≤ R.locals) :
    Back l R p e below s args (am_y (am_mt G j)) 3 8 (PreOf R mc ms Pc) (PostOf Qc mc ms free) := by
  have hws := am_words hgood hok hts
  have hin : ∀ (a' : Array Value) (U : State), s.WarmedH U.vm → (Cond.initialized (am_y (am_mt G j)).cls).before a' U = true := fun a' U hW => hws _ (List.mem_cons_of_mem _ hok.2.2.2.2.2.1) a' U hW
  cases hh : am_hs (am_mt G j) with
  | nil => exact back_of (bytes := am_b (am_mt G j)) (maxL := am_mL (am_mt G j)) (ret := am_rt (am_mt G j)) hM hblind hrc hrs hfr hlo hws (by unfold am_cw; rw [hh]; exact List.mem_cons_self) hin
  | cons q r => exact va_backW (hh := q :: r) (bytes := am_b (am_mt G j)) (maxL := am_mL (am_mt G j)) (ret := am_rt (am_mt G j)) hM hblind hrc hrs hfr hlo hws (by unfold am_cw; rw [hh]; exact List.mem_cons_self) hin
theorem am_Y_mv {U : State} (hY : am_Y G cl own D cA b0 b L xs s) (hal : s.vm.Alike U.vm) (hU : U.heap = H) {h : am_H} (hX : am_X G cl D cA b0 b L xs h H) (hS : va_S (fun q => b ≤ q) s.heap H locs) : am_Y G cl own D cA b0 b L xs U := by
  obtain ⟨h1, h2, h3, h4, h5⟩ := hY
  refine ⟨va_K.moved hal h1, h2, by rw [hU]; exact Nat.le_trans h3 hS.1, (h4.moved hal).kept ?_, by rw [hU]; exact hX.2.2.2.2⟩
  rw [hU]
  exact hS.2.1 b0 (Nat.lt_of_lt_of_le h2 h3) (by show ¬ b ≤ b0; omega)
theorem am_blind (hZm : ∀ (s U : State), Z s → s.vm.Alike U.vm → (∀ q : Nat, q < s.heap.size → ¬ b ≤ q → U.heap[q]? = s.heap[q]?) → Z U) (as : List Value) (h : am_H) : FrameBlind (am_Pc G cl own D cA b0 b L xs Z as h) := fun a U g mk q => by
  obtain ⟨q0, q1, ⟨h1, h2, h3, h4, h5⟩, q3⟩ := q
  exact ⟨q0, q1, ⟨va_K.moved (u := U) (U := U.calling g mk a) (Vm.Alike.refl U.vm) h1, h2, h3, va_X.moved (u := U) (U := U.calling g mk a) (Vm.Alike.refl U.vm) h4, h5⟩, hZm U (U.calling g mk a) q3 (Vm.Alike.refl U.vm) (fun _ _ _ => rfl)⟩
/-- what a walk of M knows -/
def am_F (own : Nat → String) (WS : List Cond) (M : am_M) (p : Program) (m : MethodId) (args : Array Value) (meth : Method) (c : Code) (s : State) : Prop :=
  p.tables.exec = Jvm.exec ∧ c.code = am_b M ∧ c.maxLocals = am_mL M ∧ s.vm.findClass (own (am_o M)) = some m.cls ∧ (∀ w ∈ WS, w.before args s = true) ∧ meth.sig.returnType = am_rt M ∧ meth.locks = false ∧ meth.name = (am_y M).name ∧ c.exceptionTable.toList.map (fun h => (h.startPc, h.endPc, h.handlerPc, h.catchType)) = am_hs M
/-- what the rest of a walk gives -/
def am_K (k : Nat → List (Nat × Value) → List Value → am_H → Nat → Nat → Prop) (G : am_G) (cl : List vw_C) (D : va_G) (cA : Nat → ClassId) (b0 b L : Nat) (xs : Nat → Int32) (M : am_M) (p : Program) (l : Launch) (e : Env) (R : Room) (s : State) (m : MethodId) (args : Array Value) (below : List Frame) (meth : Method) (c : Code) (Qf : State → Prop) : Prop :=
  ∀ (pc : Nat) (al : List (Nat × Value)) (st : List Value) (h : am_H) (cn un : Nat) (H : Heap) (locs : List Loc) (ls : Array Slot), k pc al st h cn un → am_X G cl D cA b0 b L xs h H → va_S (fun q => b ≤ q) s.heap H locs → lv_has ls (am_mL M) (am_tl b0 b al) → cn ≤ am_mc M → un ≤ am_ms M →
    W p l e R s m args below meth c H locs cn un Qf (F0 m pc ls (st.map (am_tv b0 b)))
theorem am_snd_dflt {k : Nat → List (Nat × Value) → List Value → am_H → Nat → Nat → Prop} (hF : am_F own WS M p m args meth c s) (hk : am_K k G cl D cA b0 b L xs M p l e R s m args below meth c Qf) {ins : Instr} {len pc cn un : Nat} {al : List (Nat × Value)} {st : List Value} {h : am_H} {ls : Array Slot} (hd : decode (am_b M) pc = .ok (ins, len)) (hh : am_dflt k ins len pc al st h cn un)
    (hX : am_X G cl D cA b0 b L xs h H) (hS : va_S (fun q => b ≤ q) s.heap H locs) (hl : lv_has ls (am_mL M) (am_tl b0 b al)) (hc : cn ≤ am_mc M) (hu : un ≤ am_ms M) : W p l e R s m args below meth c H locs cn un Qf (F0 m pc ls (st.map (am_tv b0 b))) := by
  unfold am_dflt at hh
  split at hh
  · rename_i q hq
    obtain ⟨hlen, hh⟩ := hh
    exact am_r_pure hF.1 hF.2.1 hq hd hlen (hk _ _ _ _ _ _ _ _ _ hh hX hS hl hc hu)
  · split at hh
    · rename_i q hq
      obtain ⟨hlen, ht, hh⟩ := hh
      subst hlen
      refine am_r_br hF.1 hF.2.1 hq hd ht (fun z => ?_) (fun z => ?_)
      · rw [if_pos z] at hh
        exact hk _ _ _ _ _ _ _ _ _ hh hX hS hl hc hu
      · rw [if_neg (by rw [z]; decide)] at hh
        exact hk _ _ _ _ _ _ _ _ _ hh hX hS hl hc hu
    · split at hh
      · rename_i q hq
        obtain ⟨ht, hh⟩ := hh
        exact am_r_sw hF.1 hF.2.1 hq hd ht (hk _ _ _ _ _ _ _ _ _ hh hX hS hl hc hu)
      · exact hh.elim
end AMS
end
section
/-! Part 26: the machine is sound: calls, all instructions, all methods -/
section AMS2
variable {p : Program} {l : Launch} {e : Env} {s : State} {m : MethodId} {args : Array Value} {below : List Frame} {meth : Method} {c : Code} {H : Heap} {locs : List Loc}
variable {G : am_G} {cl : List vw_C} {own xn : Nat → String} {host : String} {WS : List Cond} {D : va_G} {cA : Nat → ClassId} {b0 b L d : Nat} {xs : Nat → Int32} {Z : State → Prop} {M : am_M}
/-- contracts of all methods, d calls deep -/
def am_HC (C : Nat → List Value → am_H → am_O → am_H → Prop) (l : Launch) (G : am_G) (cl : List vw_C) (own xn : Nat → String) (WS : List Cond) (D : va_G) (cA : Nat → ClassId) (b0 b L d : Nat) (xs : Nat → Int32) (Z : State → Prop) : Prop :=
  ∀ (j : Nat) (as : List Value) (h : am_H) (o : am_O) (h' : am_H), C j as h o h' → am_okm G own WS j →
    am_MX l (am_y (am_mt G j)) (am_cw (am_mt G j) :: WS) (am_rm d (am_mt G j)) (am_Pc G cl own D cA b0 b L xs Z as h) (am_Qc G cl xn D cA b0 b L xs o h') (am_mc (am_mt G j)) (am_ms (am_mt G j)) (fun q => b ≤ q)
theorem am_snd_inv (hZ3 : ∀ s : State, Z s → ∀ x y, x < 4 → y < 4 → x ≠ y → va_Nc (xn x) (xn y) s) {C : Nat → List Value → am_H → am_O → am_H → Prop} {k : Nat → List (Nat × Value) → List Value → am_H → Nat → Nat → Prop} {oM : am_O} {hM : am_H} (hWF : am_WF G cl own xn host WS) (hZm : ∀ (s U : State), Z s → s.vm.Alike U.vm → (∀ q : Nat, q < s.heap.size → ¬ b ≤ q → U.heap[q]? = s.heap[q]?) → Z U)
    (hMj : ∃ jM, M = am_mt G jM) (hC : am_HC C l G cl own xn WS D cA b0 b L d xs Z) (hF : am_F own WS M p m args meth c s) (hY : am_Y G cl own D cA b0 b L xs s) (hZ : Z s)
    (hk : am_K k G cl D cA b0 b L xs M p l e (am_rm (d + 1) M) s m args below meth c (am_MQ below (am_Qc G cl xn D cA b0 b L xs oM hM) args s (am_mc M) (am_ms M) (fun q => b ≤ q)))
    {j pc cn un : Nat} {as : List Value} {al : List (Nat × Value)} {rest : List Value} {h : am_H} {ls : Array Slot} {st : List Value} {ig : Instr} {mk : MethodId} (hok : am_okm G own WS j) (hh : am_inv C G M k (fun o1 h1 => o1 = oM ∧ h1 = hM) j as pc al rest h cn un)
    (hn : s.methodNamed? (am_y (am_mt G j)) = some mk) (hd : decode (am_b M) pc = .ok (ig, 3))
    (hgo : am_Go p l e (am_rm (d + 1) M) s m args below meth c H locs cn un (F0 m pc ls (st.map (am_tv b0 b))) (rest.map (am_tv b0 b)) mk (as.map (am_tv b0 b)).toArray)
    (hX : am_X G cl D cA b0 b L xs h H) (hS : va_S (fun q => b ≤ q) s.heap H locs) (hl : lv_has ls (am_mL M) (am_tl b0 b al)) :
    W p l e (am_rm (d + 1) M) s m args below meth c H locs cn un (am_MQ below (am_Qc G cl xn D cA b0 b L xs oM hM) args s (am_mc M) (am_ms M) (fun q => b ≤ q)) (F0 m pc ls (st.map (am_tv b0 b))) := by
  obtain ⟨hw8, hcn, hun, o, h', hCj, hh⟩ := hh
  have hMX := hC j as h o h' hCj hok
  have hP : ∀ U : State, U.heap = H → s.WarmedH U.vm → am_Pc G cl own D cA b0 b L xs Z as h (as.map (am_tv b0 b)).toArray U := fun U hU hW =>
    ⟨rfl, by rw [hU]; exact hX, am_Y_mv hY hW.alike hU hX hS, hZm s U hZ hW.alike (fun q h1 h2 => by rw [hU]; exact hS.2.1 q h1 h2)⟩
  have hlo : 8 + (am_mL (am_mt G j) + 11) + (am_rm d (am_mt G j)).locals ≤ (am_rm (d + 1) M).locals := by
    have := hok.2.2.2.2.1
    show 8 + (am_mL (am_mt G j) + 11) + 40 * d ≤ 40 * (d + 1)
    omega
  cases o with
  | inl v =>
    have hh : k (pc + 3) al (v.toList ++ rest) h' (cn + am_mc (am_mt G j)) (un + am_ms (am_mt G j)) := hh
    have hB := am_back (R := am_rm (d + 1) M) (p := p) (e := e) (below := below) hWF.1 hok hF.2.2.2.2.1 (am_MX_met (fun a st o t hq => ⟨_, hq.1⟩) hMX) (am_blind hZm as h) rfl rfl (Nat.le_refl _) hlo
    refine am_ret hgo hB hn rfl (by rw [hF.2.2.1]; exact hl.1) (by rw [hF.2.1]; exact hd) (by show 2 * 0 + _ ≤ 8; rw [am_w8_map]; omega) hcn hun hP hS (fun H1 locs1 hX1 hS1 => ?_)
    have := hk _ _ _ _ _ _ H1 locs1 ls hh hX1 hS1 hl hcn hun
    rw [List.map_append] at this
    have e9 : (v.toList).map (am_tv b0 b) = (v.map (am_tv b0 b)).toList := by cases v <;> rfl
    rw [e9] at this
    exact this
  | inr x =>
    obtain ⟨hx, hb, hml, hown, hts, hr, hlk, hnm, htab⟩ := id hF
    obtain ⟨mk', methM, cM, hn', hm, hcM, hlM, -⟩ := am_named (hts _ hok.2.2.2.2.2.2)
    cases hn.symm.trans hn'
    have hws := am_words hWF.1 hok hts
    intro T hT X
    obtain ⟨vm₁, hW₁, X₁, hst⟩ := hgo T hT X
    obtain ⟨xa, T', t, st0, Ls, X', hL, e1, e2, e3, ⟨⟨ce, z1, z2, z3, z4⟩, hX', hF'⟩, hsteps⟩ := am_thr (maxL := am_mL (am_mt G j)) hMX (am_blind hZm as h) rfl rfl (Nat.le_refl _) hlo hws (by rw [X₁.warmed.alike.method?]; exact hm) hcM hlM (fun a' U hW => hws _ (List.mem_cons_of_mem _ hok.2.2.2.2.2.1) a' U hW) X₁ (g := { F0 m pc ls (st.map (am_tv b0 b)) with stack := rest.map (am_tv b0 b) }) rfl (by rw [hml]; exact hl.1) (by rw [hb]; exact hd) (by show 2 * 0 + _ ≤ 8; rw [am_w8_map]; omega) (X₁.named hn) hcn hun (hP _ hT hW₁) (fun st oc t hq => by obtain ⟨⟨ce, h1, -⟩, -⟩ := hq; exact ⟨_, h1⟩)
    have z1 : Outcome.threw xa = .threw (am_ad b0 b (am_n h' + am_g h')) := z1
    cases z1
    have e3 : st0.heap = H := e3.trans hT
    have hz : H.size ≤ T'.heap.size := by rw [e1, ← e3]; exact hF'.1
    have hkp : ∀ q : Nat, q < H.size → ¬ b ≤ q → T'.heap[q]? = H[q]? := fun q u1 u2 => by
      rw [e1, ← e3]
      exact hF'.2 q (by rw [e3]; exact u1) u2
    have hS' : va_S (fun q => b ≤ q) s.heap T'.heap (locs ++ Ls) := ⟨Nat.le_trans hS.1 hz, fun q u1 u2 => (hkp q (Nat.lt_of_lt_of_le u1 hS.1) u2).trans (hS.2.1 q u1 u2), fun q hq => by
      rcases List.mem_append.mp hq with h9 | h9
      · exact hS.2.2 q h9
      · exact hL q h9⟩
    have hX' : am_X G cl D cA b0 b L xs h' T'.heap := by rw [e1]; exact hX'
    have z2 : T'.heap[am_ad b0 b (am_n h' + am_g h')]? = some ce := by rw [e1]; exact z2
    have z4 : s.vm.findClass (xn x) = some ce.cls := by
      have : T'.vm.findClass (xn x) = some ce.cls := by rw [e2]; exact z4
      rw [X'.warmed.alike.findClass] at this
      exact this
    unfold am_cont at hh
    simp only at hh
    split at hh
    · rename_i tp htp
      obtain ⟨hx4, hh⟩ := hh
      obtain ⟨jM, rfl⟩ := hMj
      obtain ⟨wgood, wf1, wf3, wf4, wac, war, wkc, wkl, wv0, wv3, ws1, ws4, wi2, wo7, wc8, wm10, wm11, whs, wx5⟩ := id hWF
      have hall : ∀ y ∈ c.exceptionTable.toList, y.catchType ≠ 0 ∧ (Cond.classLink (own (am_o (am_mt G jM))) y.catchType (xn (am_pl G (am_o (am_mt G jM)) y.catchType).2.1)).before args s = true ∧ ((am_pl G (am_o (am_mt G jM)) y.catchType).2.1 ≠ x → va_Nc (xn x) (xn (am_pl G (am_o (am_mt G jM)) y.catchType).2.1) s) := by
        intro y hy
        have hq : (y.startPc, y.endPc, y.handlerPc, y.catchType) ∈ am_hs (am_mt G jM) := by
          rw [← htab]
          exact List.mem_map.mpr ⟨y, hy, rfl⟩
        obtain ⟨g1, g2, g3, g5⟩ := whs jM _ hq
        exact ⟨g1, hts _ g2, fun g4 => hZ3 s hZ _ _ hx4 g3 (Ne.symm g4)⟩
      have hne : ∃ q, q ∈ am_hs (am_mt G jM) := by
        cases hz9 : am_hs (am_mt G jM) with
        | nil => rw [hz9] at htp; cases htp
        | cons q r => exact ⟨q, List.mem_cons_self⟩
      obtain ⟨q9, hq9⟩ := hne
      have hself : s.vm.assignable ce.cls ce.cls = true := by
        obtain ⟨c3, cT, hc3, hcT, hasg⟩ := Cond.castable_spec (hts _ ((whs jM q9 hq9).2.2.2 x hx4))
        cases z4.symm.trans hc3
        cases z4.symm.trans hcT
        exact hasg
      obtain ⟨vm', X9, hst9⟩ := am_catch X' (f9 := fun i => (am_pl G (am_o (am_mt G jM)) i).2.1) (xn := xn) (x := x) (t := tp) (g := { F0 m pc ls (st.map (am_tv b0 b)) with stack := rest.map (am_tv b0 b) }) rfl hown z4 rfl (by rw [z3]; rfl) hself z2 hall (by rw [htab]; exact htp)
      obtain ⟨t2, x1, x2⟩ := hk _ _ _ _ _ _ T'.heap (locs ++ Ls) ls hh hX' hS' hl hcn hun (T'.setVm vm') rfl X9
      exact ⟨t2, hst _ (hsteps.trans (hst9 _ x1)), x2⟩
    · obtain ⟨hs0, rfl, rfl⟩ := hh
      have hout : ∀ y ∈ c.exceptionTable.toList, covers y pc = false := by
        rw [hs0] at htab
        intro y hy
        have : c.exceptionTable.toList = [] := List.map_eq_nil_iff.mp htab
        rw [this] at hy
        cases hy
      obtain ⟨w1, w2, w3, w4, w5⟩ := (stand_widen X' hcn hun).leaveThrown (am_ad b0 b (am_n h' + am_g h')) (g := { F0 m pc ls (st.map (am_tv b0 b)) with stack := rest.map (am_tv b0 b) }) rfl rfl rfl hout hlk
      exact ⟨_, hst _ (hsteps.trans w1), _, w2, w3, ⟨⟨ce, rfl, z2, z3, by
        have : T'.vm.findClass (xn x) = some ce.cls := by rw [X'.warmed.alike.findClass]; exact z4
        exact this⟩, hX', ⟨hS'.1, fun q u1 u2 => hS'.2.1 q u1 u2⟩⟩, _, ⟨w4, w5⟩, hS'.2.2⟩
theorem am_split (f : Value → Value) (st : List Value) (n : Nat) : st.map f = ((st.take n).reverse.map f).reverse ++ (st.drop n).map f := by
  rw [List.map_reverse, List.reverse_reverse, ← List.map_append, List.take_append_drop]
theorem am_len9 (f : Value → Value) {st : List Value} {n : Nat} (h : n ≤ st.length) : ((st.take n).reverse.map f).length = n := by
  rw [List.length_map, List.length_reverse, List.length_take]
  omega
theorem am_np9 {j : Nat} (hok : am_okm G own WS j) {sig : MethodDescriptor} (h : parseMethodDescriptor (am_y (am_mt G j)).desc = some sig) : sig.parameters.length = am_np (am_mt G j) := by
  have := hok.2.2.2.1
  rw [h] at this
  exact Option.some.inj this
theorem am_recv9 (hY : am_Y G cl own D cA b0 b L xs s) {h : am_H} (hX : am_X G cl D cA b0 b L xs h H) {ci a : Nat} {T : u_T} (hc : cl[ci]? = some (own ci, T, am_nf G ci)) (hlt : ci < 100) (hs : am_sh h a = some (ci, am_nf G ci)) : ∃ cell : Cell, H[am_ad b0 b a]? = some cell ∧ cell.vm.isStatics = false ∧ s.vm.findClass (own ci) = some cell.cls := by
  obtain ⟨-, -, hat⟩ := am_obj_at hX hs (by omega)
  rw [am_ce_o hs hlt] at hat
  exact va_recv hY.1 hX.1 hc hat
set_option maxHeartbeats 4000000 in
theorem am_snd_do (hZ3 : ∀ s : State, Z s → ∀ x y, x < 4 → y < 4 → x ≠ y → va_Nc (xn x) (xn y) s) {oM : am_O} (hlv : ∀ x, oM = .inr x → 5 < d + 1) (htr : l.stackTraces = false) (hZ2 : ∀ s : State, Z s → ∀ a9 : Array Value, ∀ w ∈ am_zw, w.before a9 s = true) {C : Nat → List Value → am_H → am_O → am_H → Prop} {k : Nat → List (Nat × Value) → List Value → am_H → Nat → Nat → Prop} {hM : am_H} (hWF : am_WF G cl own xn host WS) (hZm : ∀ (s U : State), Z s → s.vm.Alike U.vm → (∀ q : Nat, q < s.heap.size → ¬ b ≤ q → U.heap[q]? = s.heap[q]?) → Z U)
    (hMj : ∃ jM, M = am_mt G jM) (hC : am_HC C l G cl own xn WS D cA b0 b L d xs Z) (hF : am_F own WS M p m args meth c s) (hY : am_Y G cl own D cA b0 b L xs s) (hZ : Z s)
    (hk : am_K k G cl D cA b0 b L xs M p l e (am_rm (d + 1) M) s m args below meth c (am_MQ below (am_Qc G cl xn D cA b0 b L xs oM hM) args s (am_mc M) (am_ms M) (fun q => b ≤ q)))
    {ins : Instr} {len pc cn un : Nat} {al : List (Nat × Value)} {h : am_H} {ls : Array Slot} {st : List Value} (hd : decode (am_b M) pc = .ok (ins, len)) (hh : am_do C G M k (fun o1 h1 => o1 = oM ∧ h1 = hM) ins len pc al st h cn un)
    (hX : am_X G cl D cA b0 b L xs h H) (hS : va_S (fun q => b ≤ q) s.heap H locs) (hl : lv_has ls (am_mL M) (am_tl b0 b al)) (hc : cn ≤ am_mc M) (hu : un ≤ am_ms M) :
    W p l e (am_rm (d + 1) M) s m args below meth c H locs cn un (am_MQ below (am_Qc G cl xn D cA b0 b L xs oM hM) args s (am_mc M) (am_ms M) (fun q => b ≤ q)) (F0 m pc ls (st.map (am_tv b0 b))) := by
  obtain ⟨hx, hb, hml, hown, hts, hr, hlk, hnm, htab⟩ := id hF
  obtain ⟨wgood, wf1, wf3, wf4, wac, war, wkc, wkl, wv0, wv3, ws1, ws4, wi2, wo7, wc8, wm10, wm11, whs, wx5⟩ := id hWF
  cases ins with
  | iload_n i =>
    obtain ⟨rfl, hh⟩ := hh
    obtain ⟨x, h1, h2⟩ := am_vi_s hh
    exact lv_iload_n hx hb hd rfl (am_lk_at hl h1) (hk _ _ _ _ _ _ _ _ _ h2 hX hS hl hc hu)
  | iload i =>
    obtain ⟨rfl, hh⟩ := hh
    obtain ⟨x, h1, h2⟩ := am_vi_s hh
    exact lv_iload hx hb hd (am_lk_at hl h1) (hk _ _ _ _ _ _ _ _ _ h2 hX hS hl hc hu)
  | lload_n i =>
    obtain ⟨rfl, hh⟩ := hh
    obtain ⟨x, h1, h2⟩ := am_vl_s hh
    exact lv_lload_n hx hb hd rfl (am_lk_at hl h1) (hk _ _ _ _ _ _ _ _ _ h2 hX hS hl hc hu)
  | lload i =>
    obtain ⟨rfl, hh⟩ := hh
    obtain ⟨x, h1, h2⟩ := am_vl_s hh
    exact lv_lload hx hb hd (am_lk_at hl h1) (hk _ _ _ _ _ _ _ _ _ h2 hX hS hl hc hu)
  | aload_n i =>
    obtain ⟨rfl, hh⟩ := hh
    obtain ⟨x, h1, h2⟩ := am_vr_s hh
    exact lv_aload_n hx hb hd rfl (am_lk_at hl h1) (hk _ _ _ _ _ _ _ _ _ h2 hX hS hl hc hu)
  | aload i =>
    obtain ⟨rfl, hh⟩ := hh
    obtain ⟨x, h1, h2⟩ := am_vr_s hh
    exact lv_aload hx hb hd (am_lk_at hl h1) (hk _ _ _ _ _ _ _ _ _ h2 hX hS hl hc hu)
  | istore_n i =>
    obtain ⟨rfl, hi, hh⟩ := hh
    obtain ⟨x, r, rfl, h2⟩ := am_sti_s hh
    exact lv_istore_n (lv' := am_tl b0 b (am_s1 al i (.int x))) hx hb hd rfl hl hi (by rw [am_tl_filter]; rfl) (fun ls' hl' => hk _ _ _ _ _ _ _ _ _ h2 hX hS hl' hc hu)
  | istore i =>
    obtain ⟨rfl, hi, hh⟩ := hh
    obtain ⟨x, r, rfl, h2⟩ := am_sti_s hh
    exact lv_istore (lv' := am_tl b0 b (am_s1 al i (.int x))) hx hb hd hl hi (by rw [am_tl_filter]; rfl) (fun ls' hl' => hk _ _ _ _ _ _ _ _ _ h2 hX hS hl' hc hu)
  | astore_n i =>
    obtain ⟨rfl, hi, hh⟩ := hh
    obtain ⟨x, r, rfl, h2⟩ := am_str_s hh
    exact lv_astore_n (lv' := am_tl b0 b (am_s1 al i (.ref x))) hx hb hd rfl hl hi (by rw [am_tl_filter]; rfl) (fun ls' hl' => hk _ _ _ _ _ _ _ _ _ h2 hX hS hl' hc hu)
  | astore i =>
    obtain ⟨rfl, hi, hh⟩ := hh
    obtain ⟨x, r, rfl, h2⟩ := am_str_s hh
    exact lv_astore (lv' := am_tl b0 b (am_s1 al i (.ref x))) hx hb hd hl hi (by rw [am_tl_filter]; rfl) (fun ls' hl' => hk _ _ _ _ _ _ _ _ _ h2 hX hS hl' hc hu)
  | iinc i n =>
    obtain ⟨rfl, hi, hh⟩ := hh
    obtain ⟨x, h1, h2⟩ := am_vi_s hh
    obtain ⟨k9, hk9⟩ := List.getElem?_of_mem (show (i, Value.int x) ∈ am_tl b0 b al from List.mem_map.mpr ⟨(i, .int x), am_lk_mem h1, rfl⟩)
    exact lv_iinc (lv' := am_tl b0 b (am_s1 al i (.int (x + Int32.ofInt n)))) hx hb hd hl hk9 rfl hi (by rw [am_tl_filter]; rfl) (fun ls' hl' => hk _ _ _ _ _ _ _ _ _ h2 hX hS hl' hc hu)
  | irem =>
    obtain ⟨rfl, hh⟩ := hh
    split at hh
    · rename_i y x r
      obtain ⟨hne, hh⟩ := hh
      exact lv_irem hx hb hd hne (hk _ _ _ _ _ _ _ _ _ hh hX hS hl hc hu)
    · exact hh.elim
  | ldc i =>
    obtain ⟨rfl, hh⟩ := hh
    obtain ⟨x, h1, h2⟩ := am_vi_s hh
    exact lv_ldc hx hb hown (hts _ (wkc _ _ _ h1)) hd (hk _ _ _ _ _ _ _ _ _ h2 hX hS hl hc hu)
  | ldc_w i =>
    obtain ⟨rfl, hh⟩ := hh
    obtain ⟨x, h1, h2⟩ := am_vi_s hh
    exact lv_ldcw hx hb hown (hts _ (wkc _ _ _ h1)) hd (hk _ _ _ _ _ _ _ _ _ h2 hX hS hl hc hu)
  | ldc2_w i =>
    obtain ⟨rfl, hh⟩ := hh
    obtain ⟨x, h1, h2⟩ := am_vl_s hh
    exact lv_ldc2 hx hb hown (hts _ (wkl _ _ _ h1)) hd (hk _ _ _ _ _ _ _ _ _ h2 hX hS hl hc hu)
  | getfield i =>
    obtain ⟨rfl, hh⟩ := hh
    obtain ⟨a, r, rfl, hh⟩ := am_str_s hh
    unfold am_get at hh
    split at hh
    · rename_i ci fi hpl
      obtain ⟨h1, h2, hh⟩ := hh
      by_cases h9 : am_ft G ci fi % 10 = 2
      · rw [if_pos h9] at hh
        obtain ⟨j, hj, hh⟩ := am_so_s hh
        exact am_r_get hx hb hts hown hY (wf1 _ _ _ _ hpl) hX hpl h1 h2 hd (v := .ref (am_ad b0 b j)) (by rw [if_pos h9, hj]; rfl) (hk _ _ _ _ _ _ _ _ _ hh hX hS hl hc hu)
      · rw [if_neg h9] at hh
        exact am_r_get hx hb hts hown hY (wf1 _ _ _ _ hpl) hX hpl h1 h2 hd (v := .int (am_I h a fi)) (by rw [if_neg h9]) (hk _ _ _ _ _ _ _ _ _ hh hX hS hl hc hu)
    · exact hh.elim
  | putfield i =>
    obtain ⟨rfl, hh⟩ := hh
    obtain ⟨v, a, r, rfl, hh9⟩ := am_stv_s hh
    clear hh
    have hh := hh9
    clear hh9
    unfold am_put at hh
    split at hh
    · rename_i ci fi hpl
      obtain ⟨h1, h2, h3, hh⟩ := hh
      have hok := wf1 _ _ _ _ hpl
      have hlt : ci < 100 := by
        obtain ⟨T, ty, -, q, -⟩ := hok
        exact q
      obtain ⟨h0, hn, -⟩ := am_obj_at hX h1 (by omega)
      have hf : am_ft G ci fi < 10 ∨ (meth.name = "<init>" ∧ own (am_o M) = own ci) := by
        rcases h3 with h3 | ⟨h3, h4⟩
        · exact Or.inl h3
        · exact Or.inr ⟨hnm.trans h3, by rw [h4]⟩
      split at hh
      · rename_i x
        obtain ⟨h4, hh⟩ := hh
        have h5 : ¬ am_ft G ci fi % 10 = 2 := by omega
        refine am_r_put hx hb hts hown hY hok hX hS hpl h1 h2 hf hd (v := .int x) ?_ (fun H1 locs1 g1 g2 g3 g4 => hk _ _ _ _ _ _ H1 locs1 ls hh (am_X_of hX h0 hn rfl rfl rfl (am_u2_ne _ _ _ (Ne.symm h0)) ?_ (fun y hy => am_ce_eq rfl rfl (am_u2_ne _ _ _ hy) rfl) g1 g2 g3) g4 hl hc hu)
        · rcases h4 with h4 | ⟨h4, h6 | h6⟩
          · exact Or.inl ⟨h4, x, rfl⟩
          · exact Or.inr (Or.inl ⟨h4, Or.inl (by rw [h6])⟩)
          · exact Or.inr (Or.inl ⟨h4, Or.inr (by rw [h6])⟩)
        · rw [am_ce_o (h := am_setI h (am_u2 (am_I h) a fi x)) h1 hlt]
          refine congrArg (fun z => Sum.inr (ci, z)) (am_rset (fun j hj => ?_) ?_).symm
          · show (if am_ft G ci j % 10 = 2 then _ else Value.int (am_u2 (am_I h) a fi x a j)) = _
            rw [am_u2_eq]
            simp [hj]
            rfl
          · show (if am_ft G ci fi % 10 = 2 then _ else Value.int (am_u2 (am_I h) a fi x a fi)) = _
            rw [if_neg h5, am_u2_eq]
            simp
      · rename_i j
        obtain ⟨h4, hh⟩ := hh
        refine am_r_put hx hb hts hown hY hok hX hS hpl h1 h2 hf hd (v := .ref (am_ad b0 b j)) (Or.inr (Or.inr ⟨h4, _, rfl⟩)) (fun H1 locs1 g1 g2 g3 g4 => hk _ _ _ _ _ _ H1 locs1 ls hh (am_X_of hX h0 hn rfl rfl rfl rfl ?_ (fun y hy => am_ce_eq rfl (am_u2_ne _ _ _ hy) rfl rfl) g1 g2 g3) g4 hl hc hu)
        rw [am_ce_o (h := am_setP h (am_u2 (am_P h) a fi (some j))) h1 hlt]
        refine congrArg (fun z => Sum.inr (ci, z)) (am_rset (fun y hy => ?_) ?_).symm
        · show (if am_ft G ci y % 10 = 2 then va_rf ((am_u2 (am_P h) a fi (some j) a y).map (am_ad b0 b)) else _) = _
          rw [am_u2_eq]
          simp [hy]
          rfl
        · show (if am_ft G ci fi % 10 = 2 then va_rf ((am_u2 (am_P h) a fi (some j) a fi).map (am_ad b0 b)) else _) = _
          rw [if_pos h4, am_u2_eq]
          simp [va_rf]
      · exact hh.elim
    · exact hh.elim
  | iaload =>
    obtain ⟨rfl, hh⟩ := hh
    obtain ⟨i, r1, rfl, hh2⟩ := am_sti_s hh
    obtain ⟨a, r, rfl, hh3⟩ := am_str_s hh2
    exact am_r_ald hx hb hY hX hS hh3 hd (fun v hv => hk _ _ _ _ _ _ _ _ _ hv hX hS hl hc hu)
  | baload =>
    obtain ⟨rfl, hh⟩ := hh
    obtain ⟨i, r1, rfl, hh2⟩ := am_sti_s hh
    obtain ⟨a, r, rfl, hh3⟩ := am_str_s hh2
    exact am_r_ald hx hb hY hX hS hh3 hd (fun v hv => hk _ _ _ _ _ _ _ _ _ hv hX hS hl hc hu)
  | laload =>
    obtain ⟨rfl, hh⟩ := hh
    obtain ⟨i, r1, rfl, hh2⟩ := am_sti_s hh
    obtain ⟨a, r, rfl, hh3⟩ := am_str_s hh2
    exact am_r_ald hx hb hY hX hS hh3 hd (fun v hv => hk _ _ _ _ _ _ _ _ _ hv hX hS hl hc hu)
  | aaload =>
    obtain ⟨rfl, hh⟩ := hh
    obtain ⟨i, r1, rfl, hh2⟩ := am_sti_s hh
    obtain ⟨a, r, rfl, hh3⟩ := am_str_s hh2
    exact am_r_ald hx hb hY hX hS hh3 hd (fun v hv => hk _ _ _ _ _ _ _ _ _ hv hX hS hl hc hu)
  | iastore =>
    obtain ⟨rfl, hh⟩ := hh
    cases st with
    | nil => exact hh.elim
    | cons v r =>
      obtain ⟨i, r1, rfl, hh2⟩ := am_sti_s hh
      obtain ⟨a, r, rfl, hh3⟩ := am_str_s hh2
      exact am_r_ast hx hb hY wac hX hS hh3 hd (fun h' H1 locs1 hv hX1 hS1 => hk _ _ _ _ _ _ H1 locs1 ls hv hX1 hS1 hl hc hu)
  | bastore =>
    obtain ⟨rfl, hh⟩ := hh
    cases st with
    | nil => exact hh.elim
    | cons v r =>
      obtain ⟨i, r1, rfl, hh2⟩ := am_sti_s hh
      obtain ⟨a, r, rfl, hh3⟩ := am_str_s hh2
      exact am_r_ast hx hb hY wac hX hS hh3 hd (fun h' H1 locs1 hv hX1 hS1 => hk _ _ _ _ _ _ H1 locs1 ls hv hX1 hS1 hl hc hu)
  | lastore =>
    obtain ⟨rfl, hh⟩ := hh
    cases st with
    | nil => exact hh.elim
    | cons v r =>
      obtain ⟨i, r1, rfl, hh2⟩ := am_sti_s hh
      obtain ⟨a, r, rfl, hh3⟩ := am_str_s hh2
      exact am_r_ast hx hb hY wac hX hS hh3 hd (fun h' H1 locs1 hv hX1 hS1 => hk _ _ _ _ _ _ H1 locs1 ls hv hX1 hS1 hl hc hu)
  | aastore =>
    obtain ⟨rfl, hh⟩ := hh
    cases st with
    | nil => exact hh.elim
    | cons v r =>
      obtain ⟨i, r1, rfl, hh2⟩ := am_sti_s hh
      obtain ⟨a, r, rfl, hh3⟩ := am_str_s hh2
      exact am_r_ast hx hb hY wac hX hS hh3 hd (fun h' H1 locs1 hv hX1 hS1 => hk _ _ _ _ _ _ H1 locs1 ls hv hX1 hS1 hl hc hu)
  | arraylength =>
    obtain ⟨rfl, hh⟩ := hh
    obtain ⟨a, r, rfl, hh⟩ := am_str_s hh
    obtain ⟨q, hq, h1, hh⟩ := am_so_s hh
    exact am_r_len hx hb hY hX hS hq h1 hd (hk _ _ _ _ _ _ _ _ _ hh hX hS hl hc hu)
  | new i =>
    obtain ⟨rfl, hh⟩ := hh
    split at hh
    · rename_i ci z1 z2 hpl
      obtain ⟨hg, hcn, hun, hlt, hh⟩ := hh
      obtain ⟨w1, w2, w3, w4⟩ := wf3 _ _ _ _ _ hpl
      exact am_r_new hx hb hts hown hY w1 hX hS w2 w3 w4 hg hcn hun hd (fun H1 hX1 hS1 => hk _ _ _ _ _ _ H1 locs ls hh hX1 hS1 hl hcn hun)
    · rename_i x ic z1 hpl
      obtain ⟨hs0, hcn, hun, hw8, hd3, hd4, hd7, rfl, rfl⟩ := hh
      obtain ⟨hx4, w1, w2, w3, w4⟩ := wx5 _ _ _ _ _ hpl
      exact am_thr_new htr hx hb hml hown (fun U hU hW => ⟨wgood _ w1 _ _ _ _ hW (hts _ w1), wgood _ w2 _ _ _ _ hW (hts _ w2), fun w hw => by
        rcases w4 w hw with h9 | h9
        · exact wgood _ h9 _ _ _ _ hW (hts _ h9)
        · exact hZ2 U (hZm s U hZ hW.alike (fun q g1 g2 => by rw [hU]; exact hS.2.1 q g1 g2)) args w h9⟩) w3 hd hd3 hd4 hd7 (by rw [htab, hs0]) hlk hcn hun (hlv x rfl) (by show am_w8 st + 81 ≤ 40 * (d + 1); have := hlv x rfl; omega) hl.1 hX hS
    · exact hh.elim
  | newarray ty =>
    obtain ⟨rfl, hh⟩ := hh
    obtain ⟨n, r, rfl, hh⟩ := am_sti_s hh
    cases ty with
    | int =>
      obtain ⟨h1, h2, hg, hcn, hun, hh⟩ := hh
      exact am_r_newa hx hb hts hY hX hS (Or.inl ⟨rfl, rfl⟩) war.1 h1 h2 hg hcn hun hd (fun H1 hX1 hS1 => hk _ _ _ _ _ _ H1 locs ls hh hX1 hS1 hl hcn hun)
    | boolean =>
      obtain ⟨h1, h2, hg, hcn, hun, hh⟩ := hh
      exact am_r_newa hx hb hts hY hX hS (Or.inr (Or.inl ⟨rfl, rfl⟩)) war.2.1 h1 h2 hg hcn hun hd (fun H1 hX1 hS1 => hk _ _ _ _ _ _ H1 locs ls hh hX1 hS1 hl hcn hun)
    | long =>
      obtain ⟨h1, h2, hg, hcn, hun, hh⟩ := hh
      exact am_r_newa hx hb hts hY hX hS (Or.inr (Or.inr ⟨rfl, rfl⟩)) war.2.2 h1 h2 hg hcn hun hd (fun H1 hX1 hS1 => hk _ _ _ _ _ _ H1 locs ls hh hX1 hS1 hl hcn hun)
    | _ => exact hh.elim
  | anewarray i =>
    obtain ⟨rfl, hh⟩ := hh
    obtain ⟨n, r, rfl, hh⟩ := am_sti_s hh
    split at hh
    · rename_i z1 t z2 hpl
      obtain ⟨ht, h1, h2, hg, hcn, hun, hh⟩ := hh
      obtain ⟨w1, w2⟩ := wf4 _ _ _ _ _ hpl ht
      exact am_r_anew hx hb hts hown hY hX hS ht w1 w2 h1 h2 hg hcn hun hd (fun H1 hX1 hS1 => hk _ _ _ _ _ _ H1 locs ls hh hX1 hS1 hl hcn hun)
    · exact hh.elim
  | invokestatic i =>
    obtain ⟨rfl, hh⟩ := hh
    split at hh
    · rename_i j z1 hpl
      obtain ⟨hnp, hh⟩ := hh
      obtain ⟨hok, w1, w2⟩ := ws1 _ _ _ _ hpl
      obtain ⟨mk, methM, cM, hn, hm, -, -, hsig⟩ := am_named (hts _ hok.2.2.2.2.2.2)
      have hgo := am_goS (p := p) (l := l) (e := e) (R := am_rm (d + 1) M) (below := below) (meth := meth) (H := H) (locs := locs) (cells := cn) (slots := un) hx hown (hts _ w1) (hts _ w2) (hts _ hok.2.2.2.2.2.1) hok.2.2.1 hn hm (g := F0 m pc ls (st.map (am_tv b0 b))) rfl ((am_len9 (am_tv b0 b) hnp).trans (am_np9 hok hsig).symm) (am_split (am_tv b0 b) st _) (by rw [hb]; exact hd)
      exact am_snd_inv hZ3 hWF hZm hMj hC hF hY hZ hk hok hh hn hd hgo hX hS hl
    · rename_i j z1 hpl
      obtain ⟨hnp, hh⟩ := hh
      obtain ⟨hok, w1, w2⟩ := ws4 _ _ _ _ hpl
      obtain ⟨mk, methM, cM, hn, hm, -, -, hsig⟩ := am_named (hts _ hok.2.2.2.2.2.2)
      have hgo := am_goSN (p := p) (l := l) (e := e) (R := am_rm (d + 1) M) (below := below) (meth := meth) (H := H) (locs := locs) (cells := cn) (slots := un) hx hown (hts _ w1) (hts _ w2) (hts _ hok.2.2.2.2.2.1) hok.2.2.1 hn hm (g := F0 m pc ls (st.map (am_tv b0 b))) rfl ((am_len9 (am_tv b0 b) hnp).trans (am_np9 hok hsig).symm) (am_split (am_tv b0 b) st _) (by rw [hb]; exact hd)
      exact am_snd_inv hZ3 hWF hZm hMj hC hF hY hZ hk hok hh hn hd hgo hX hS hl
    · rename_i z1 z2 z3 hpl
      obtain ⟨w1, w2, w3, w4⟩ := wc8 _ _ _ _ _ hpl
      exact am_r_cpy hx hb (by rw [hml]; exact hl.1.symm) hts hown hY hX hS w1 w2 w3 w4 (by show 1 ≤ d + 1; omega) (by show 8 + (nativeFrameWords "java/lang/System" "arraycopy" 5 + 11) ≤ 40 * (d + 1); have h99 : nativeFrameWords "java/lang/System" "arraycopy" 5 ≤ 21 := (by decide); omega) hh hd (fun h' r H1 locs1 hv hX1 hS1 => hk _ _ _ _ _ _ H1 locs1 ls hv hX1 hS1 hl hc hu)
    · rename_i z1 z2 z3 hpl
      obtain ⟨w1, w2, w3, w4⟩ := wm10 _ _ _ _ _ hpl
      obtain ⟨y, r1, rfl, hh2⟩ := am_sti_s hh
      obtain ⟨x, r, rfl, h8, hh3⟩ := am_sti_s hh2
      exact va_mmin hx hb (by rw [hml]; exact hl.1.symm) hown (hts _ w1) (hts _ w2) (hts _ w3) (hts _ w4) (by show 1 ≤ d + 1; omega) (by rw [am_w8_map]; show am_w8 r + 13 ≤ 40 * (d + 1); omega) hc hu hd (hk _ _ _ _ _ _ _ _ _ hh3 hX hS hl hc hu)
    · rename_i z1 z2 z3 hpl
      obtain ⟨w1, w2, w3, w4⟩ := wm11 _ _ _ _ _ hpl
      obtain ⟨y, r1, rfl, hh2⟩ := am_sti_s hh
      obtain ⟨x, r, rfl, h8, hh3⟩ := am_sti_s hh2
      exact va_mmax hx hb (by rw [hml]; exact hl.1.symm) hown (hts _ w1) (hts _ w2) (hts _ w3) (hts _ w4) (by show 1 ≤ d + 1; omega) (by rw [am_w8_map]; show am_w8 r + 13 ≤ 40 * (d + 1); omega) hc hu hd (hk _ _ _ _ _ _ _ _ _ hh3 hX hS hl hc hu)
    · exact hh.elim
  | invokevirtual i =>
    obtain ⟨rfl, hh⟩ := hh
    split at hh
    · rename_i j z1 hpl
      obtain ⟨hnp, hh⟩ := hh
      obtain ⟨hok, -, ⟨T9, w0⟩, wlt, w1, w2, w3⟩ := wv0 _ _ _ _ hpl
      obtain ⟨bb, r, hdr, hs, hh⟩ := am_str_s hh
      obtain ⟨mk, methM, cM, hn, hm, -, -, hsig⟩ := am_named (hts _ hok.2.2.2.2.2.2)
      obtain ⟨cellB, k1, k2, k3⟩ := am_recv9 hY hX w0 wlt hs
      have hst := am_split (am_tv b0 b) st (am_np (am_mt G j))
      rw [hdr] at hst
      have hgo := am_goV (p := p) (l := l) (e := e) (R := am_rm (d + 1) M) (below := below) (meth := meth) (H := H) (locs := locs) (cells := cn) (slots := un) hx hown (hts _ w1) (hts _ w2) (hts _ w3) hok.2.2.1 hn hm k1 k2 (by rw [hok.2.1]; exact k3) (g := F0 m pc ls (st.map (am_tv b0 b))) rfl ((am_len9 (am_tv b0 b) hnp).trans (am_np9 hok hsig).symm) (rest := r.map (am_tv b0 b)) hst (by rw [hb]; exact hd)
      exact am_snd_inv hZ3 hWF hZm hMj hC hF hY hZ hk hok hh hn hd hgo hX hS hl
    · rename_i j z1 hpl
      obtain ⟨hnp, hh⟩ := hh
      obtain ⟨hok, -, ⟨T9, w0⟩, wlt, w1, w2, w3⟩ := wv3 _ _ _ _ hpl
      obtain ⟨bb, r, hdr, hs, hh⟩ := am_str_s hh
      obtain ⟨mk, methM, cM, hn, hm, -, -, hsig⟩ := am_named (hts _ hok.2.2.2.2.2.2)
      obtain ⟨cellB, k1, k2, k3⟩ := am_recv9 hY hX w0 wlt hs
      have hst := am_split (am_tv b0 b) st (am_np (am_mt G j))
      rw [hdr] at hst
      have hgo := am_goVN (p := p) (l := l) (e := e) (R := am_rm (d + 1) M) (below := below) (meth := meth) (H := H) (locs := locs) (cells := cn) (slots := un) hx hown (hts _ w1) (hts _ w2) (hts _ w3) hok.2.2.1 hn hm k1 k2 (by rw [hok.2.1]; exact k3) (g := F0 m pc ls (st.map (am_tv b0 b))) rfl ((am_len9 (am_tv b0 b) hnp).trans (am_np9 hok hsig).symm) (rest := r.map (am_tv b0 b)) hst (by rw [hb]; exact hd)
      exact am_snd_inv hZ3 hWF hZm hMj hC hF hY hZ hk hok hh hn hd hgo hX hS hl
    · exact hh.elim
  | invokespecial i =>
    obtain ⟨rfl, hh⟩ := hh
    split at hh
    · rename_i j z1 hpl
      obtain ⟨hnp, hh⟩ := hh
      obtain ⟨hok, whs, wrt, wnm, w1, w2⟩ := wi2 _ _ _ _ hpl
      obtain ⟨bb, r, hdr, hh⟩ := am_str_s hh
      obtain ⟨mk, methM, cM, hn, hm, -, -, hsig⟩ := am_named (hts _ hok.2.2.2.2.2.2)
      have hst := am_split (am_tv b0 b) st (am_np (am_mt G j))
      rw [hdr] at hst
      have hcode : (Cond.code (am_y (am_mt G j)) (am_b (am_mt G j)) (am_mL (am_mt G j)) none).before args s = true := by
        have := hts _ hok.2.2.2.2.2.2
        unfold am_cw at this
        rw [whs, wrt] at this
        exact this
      have hgo := am_goI (p := p) (l := l) (e := e) (R := am_rm (d + 1) M) (below := below) (meth := meth) (H := H) (locs := locs) (cells := cn) (slots := un) hx hown wnm (hts _ w1) (hts _ w2) hcode hok.2.2.1 hn (b := am_ad b0 b bb) (g := F0 m pc ls (st.map (am_tv b0 b))) rfl (argsL := ((st.take (am_np (am_mt G j))).reverse.map (am_tv b0 b))) (rest := r.map (am_tv b0 b)) (fun sig h9 => (am_len9 (am_tv b0 b) hnp).trans (am_np9 hok h9).symm) hst (by rw [hb]; exact hd)
      exact am_snd_inv hZ3 hWF hZm hMj hC hF hY hZ hk hok hh hn hd hgo hX hS hl
    · rename_i z1 z2 z3 hpl
      obtain ⟨w1, w2, w3⟩ := wo7 _ _ _ _ _ hpl
      obtain ⟨a, r, rfl, h8, hh⟩ := am_str_s hh
      exact W.objInit hx hb hown (hts _ w1) (hts _ w2) (hts _ w3) rfl (by rw [hml]; exact hl.1) rfl hd (by show 1 ≤ d + 1; omega) (by show 2 * 0 + _ + 12 ≤ 40 * (d + 1); rw [am_w8_map]; omega) (hk _ _ _ _ _ _ _ _ _ hh hX hS hl hc hu)
    · exact hh.elim
  | ireturn =>
    obtain ⟨rfl, hh⟩ := hh
    split at hh
    · rename_i x
      split at hh
      · rename_i hrt
        obtain ⟨rfl, rfl⟩ := hh
        refine W.widen hc hu (am_mono (fun t => am_MQ_of) (W.zret hx hb (hr.trans hrt) rfl (fun t ht hW => ⟨rfl, by rw [ht]; exact hX, hS.F ht⟩) hS.2.2 hd hlk))
      · rename_i hrt
        obtain ⟨h01, rfl, rfl⟩ := hh
        refine W.widen hc hu (am_mono (fun t => am_MQ_of) (W.zret hx hb (hr.trans hrt) (by rcases h01 with h01 | h01 <;> rw [h01] <;> rfl) (fun t ht hW => ⟨rfl, by rw [ht]; exact hX, hS.F ht⟩) hS.2.2 hd hlk))
      · exact hh.elim
    · exact hh.elim
  | areturn =>
    obtain ⟨rfl, hh⟩ := hh
    split at hh
    · rename_i a
      split at hh
      · rename_i nm hrt
        obtain ⟨rfl, rfl⟩ := hh
        refine W.widen hc hu (am_mono (fun t => am_MQ_of) (W.aret hx hb (hr.trans hrt) (Or.inl ⟨_, rfl⟩) (Or.inr ⟨_, rfl⟩) (fun t ht hW => ⟨rfl, by rw [ht]; exact hX, hS.F ht⟩) hS.2.2 hd hlk))
      · exact hh.elim
    · exact hh.elim
  | return_ =>
    obtain ⟨rfl, hh⟩ := hh
    split at hh
    · obtain ⟨hrt, rfl, rfl⟩ := hh
      refine W.widen hc hu (am_mono (fun t => am_MQ_of) (W.vret hx hb (hr.trans hrt) (fun t ht hW => ⟨rfl, by rw [ht]; exact hX, hS.F ht⟩) hS.2.2 hd hlk))
    · exact hh.elim
  | _ =>
    rw [am_do_d rfl] at hh
    exact am_snd_dflt hF hk hd hh hX hS hl hc hu
end AMS2
end
section
/-! Part 27: every method meets what the machine says of it -/
theorem am_sl_len : ∀ vs : List Value, (lg_sl vs).length = am_w8 vs
  | [] => rfl
  | v :: vs => by
    have h := am_sl_len vs
    have e1 : lg_sl (v :: vs) = (if v.category = 2 then [Slot.val v, Slot.second] else [Slot.val v]) ++ lg_sl vs := rfl
    have e2 : am_w8 (v :: vs) = v.category + am_w8 vs := by simp [am_w8]
    rw [e1, e2, List.length_append, h]
    cases v <;> rfl
section AMA
variable {l : Launch} {G : am_G} {cl : List vw_C} {own xn : Nat → String} {host : String} {WS : List Cond} {D : va_G} {cA : Nat → ClassId} {b0 b L : Nat} {xs : Nat → Int32} {Z : State → Prop}
theorem am_snd (hZ3 : ∀ s : State, Z s → ∀ x y, x < 4 → y < 4 → x ≠ y → va_Nc (xn x) (xn y) s) {p : Program} {e : Env} {s : State} {m : MethodId} {args : Array Value} {below : List Frame} {meth : Method} {c : Code} {M : am_M} {d : Nat} {C : Nat → List Value → am_H → am_O → am_H → Prop} {oM : am_O} {hM : am_H} (hWF : am_WF G cl own xn host WS) (hZm : ∀ (s U : State), Z s → s.vm.Alike U.vm → (∀ q : Nat, q < s.heap.size → ¬ b ≤ q → U.heap[q]? = s.heap[q]?) → Z U)
    (hlv : ∀ x, oM = .inr x → 5 < d + 1) (hMj : ∃ jM, M = am_mt G jM) (htr : l.stackTraces = false) (hZ2 : ∀ s : State, Z s → ∀ a9 : Array Value, ∀ w ∈ am_zw, w.before a9 s = true) (hC : am_HC C l G cl own xn WS D cA b0 b L d xs Z) (hF : am_F own WS M p m args meth c s) (hY : am_Y G cl own D cA b0 b L xs s) (hZ : Z s) :
    am_K (am_T C G M (fun o1 h1 => o1 = oM ∧ h1 = hM)) G cl D cA b0 b L xs M p l e (am_rm (d + 1) M) s m args below meth c (am_MQ below (am_Qc G cl xn D cA b0 b L xs oM hM) args s (am_mc M) (am_ms M) (fun q => b ≤ q)) := by
  intro pc al st h cn un H locs ls hh
  revert H locs ls
  refine hh (fun pc al st h cn un => ∀ (H : Heap) (locs : List Loc) (ls : Array Slot), am_X G cl D cA b0 b L xs h H → va_S (fun q => b ≤ q) s.heap H locs → lv_has ls (am_mL M) (am_tl b0 b al) → cn ≤ am_mc M → un ≤ am_ms M →
    W p l e (am_rm (d + 1) M) s m args below meth c H locs cn un (am_MQ below (am_Qc G cl xn D cA b0 b L xs oM hM) args s (am_mc M) (am_ms M) (fun q => b ≤ q)) (F0 m pc ls (st.map (am_tv b0 b)))) ?_
  intro pc al st h cn un hh H locs ls hX hS hl hc hu
  unfold am_step at hh
  split at hh
  · rename_i q hd
    exact am_snd_do hZ3 hlv htr hZ2 hWF hZm hMj hC hF hY hZ (fun pc al st h cn un H locs ls hh => hh H locs ls) (ins := q.1) (len := q.2) hd hh hX hS hl hc hu
  · exact hh.elim
theorem am_all (hZ3 : ∀ s : State, Z s → ∀ x y, x < 4 → y < 4 → x ≠ y → va_Nc (xn x) (xn y) s) (htr : l.stackTraces = false) (hZ2 : ∀ s : State, Z s → ∀ a9 : Array Value, ∀ w ∈ am_zw, w.before a9 s = true) (hWF : am_WF G cl own xn host WS) (hZm : ∀ (s U : State), Z s → s.vm.Alike U.vm → (∀ q : Nat, q < s.heap.size → ¬ b ≤ q → U.heap[q]? = s.heap[q]?) → Z U) : ∀ d, am_HC (am_C G d) l G cl own xn WS D cA b0 b L d xs Z := by
  intro d
  induction d with
  | zero => exact fun _ _ _ _ _ hh => hh.elim
  | succ d ih =>
    intro j as h o h' hCj hok
    obtain ⟨hw8, hlv, hwp⟩ := hCj
    have body : ∀ p e s m args below meth c s₁, BodyLoose p l (am_y (am_mt G j)) (headSpec (am_cw (am_mt G j) :: WS) (am_rm (d + 1) (am_mt G j))) (am_b (am_mt G j)) (am_mL (am_mt G j)) (am_rt (am_mt G j)) e s m args below meth c s₁ → c.maxLocals = am_mL (am_mt G j) → am_Pc G cl own D cA b0 b L xs Z as h args s →
        W p l e (headSpec (am_cw (am_mt G j) :: WS) (am_rm (d + 1) (am_mt G j))).room s m args below meth c s.heap [] 0 0 (am_MQ below (am_Qc G cl xn D cA b0 b L xs o h') args s (am_mc (am_mt G j)) (am_ms (am_mt G j)) (fun q => b ≤ q)) (entryFrame m args (am_mL (am_mt G j))) := by
      intro p e s m args below meth c s₁ B hml hP
      obtain ⟨rfl, hX, hY, hZ⟩ := hP
      have hts := atoms_spec (ws := am_cw (am_mt G j) :: WS) B.pre
      have hF : am_F own WS (am_mt G j) p m (as.map (am_tv b0 b)).toArray meth c s := ⟨B.exec, B.bytes, hml, by rw [← hok.2.1]; exact findClass_of_methodNamed B.named, fun w hw => hts w (List.mem_cons_of_mem _ hw), B.returns, B.notSynchronized, (name_of_methodNamed B.named B.method).1, am_tab (hts _ List.mem_cons_self) B.named B.method (Stand.of_body B).code⟩
      have hl := lv_entry (as.map (am_tv b0 b)) (n := am_mL (am_mt G j)) (by rw [am_sl_len]; show ((as.map (am_tv b0 b)).map fun v => v.category).sum ≤ _; rw [am_w8_map]; exact hw8)
      rw [am_args_map] at hl
      rw [lg_entry_eq]
      exact am_snd hZ3 hWF hZm hlv ⟨j, rfl⟩ htr hZ2 ih hF hY hZ 0 (lv_args 0 as) [] h 0 0 s.heap [] _ hwp hX va_S.rf hl (Nat.zero_le _) (Nat.zero_le _)
    cases hs : am_hs (am_mt G j) with
    | nil => exact am_ofW hok.1 (by unfold am_cw; rw [hs]) body
    | cons q r => exact am_ofWh (hh := q :: r) hok.1 (by unfold am_cw; rw [hs]) body
end AMA
end
