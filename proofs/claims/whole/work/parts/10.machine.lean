/-! A machine of our own over a heap of our own: what the bytecode does, said without the JVM's state. Part 10: its words. -/
/-- the static half of a heap: cell k is an object of class t (t < 100) with N fields, or an array (100 int, 101 boolean, 102 long, 103 and on: of references; 150: the script) of N places; where its references point; how many cells -/
abbrev am_S : Type := (Nat → Option (Nat × Nat)) × (Nat → Nat → Option Nat) × Nat
/-- static half, cells made and left behind, ints, longs -/
abbrev am_H : Type := am_S × Nat × (Nat → Nat → Int32) × (Nat → Nat → Int64)
abbrev am_sh (h : am_H) : Nat → Option (Nat × Nat) := h.1.1
abbrev am_P (h : am_H) : Nat → Nat → Option Nat := h.1.2.1
abbrev am_n (h : am_H) : Nat := h.1.2.2
abbrev am_g (h : am_H) : Nat := h.2.1
abbrev am_I (h : am_H) : Nat → Nat → Int32 := h.2.2.1
abbrev am_L (h : am_H) : Nat → Nat → Int64 := h.2.2.2
def am_u1 {α : Type} (f : Nat → α) (k : Nat) (x : α) : Nat → α := fun j => if j = k then x else f j
def am_u2 {α : Type} (f : Nat → Nat → α) (a k : Nat) (x : α) : Nat → Nat → α := fun b => if b = a then (fun j => if j = k then x else f a j) else f b
def am_setI (h : am_H) (I : Nat → Nat → Int32) : am_H := (h.1, h.2.1, I, h.2.2.2)
def am_setL (h : am_H) (L : Nat → Nat → Int64) : am_H := (h.1, h.2.1, h.2.2.1, L)
def am_setP (h : am_H) (P : Nat → Nat → Option Nat) : am_H := ((h.1.1, P, h.1.2.2), h.2)
def am_setG (h : am_H) (g : Nat) : am_H := (h.1, g, h.2.2)
/-- a new cell, number n + 1, all of it 0 and null -/
def am_add (h : am_H) (t N : Nat) : am_H := ((am_u1 h.1.1 (h.1.2.2 + 1) (some (t, N)), am_u1 h.1.2.1 (h.1.2.2 + 1) (fun _ => none), h.1.2.2 + 1), h.2.1, am_u1 h.2.2.1 (h.1.2.2 + 1) (fun _ => 0), am_u1 h.2.2.2 (h.1.2.2 + 1) (fun _ => 0))
/-- what a method ends with: an answer, or an exception of a class -/
abbrev am_O : Type := Option Value ⊕ Nat
/-- a method: name, code, locals, kind of answer, number of its class, how many parameters, cells and slots that it may make, its handlers (from, to, there, class) -/
abbrev am_M : Type := MethodName × ByteArray × Nat × Option FieldType × Nat × Nat × Nat × Nat × List (Nat × Nat × Nat × Nat)
abbrev am_y (M : am_M) : MethodName := M.1
abbrev am_b (M : am_M) : ByteArray := M.2.1
abbrev am_mL (M : am_M) : Nat := M.2.2.1
abbrev am_rt (M : am_M) : Option FieldType := M.2.2.2.1
abbrev am_o (M : am_M) : Nat := M.2.2.2.2.1
abbrev am_np (M : am_M) : Nat := M.2.2.2.2.2.1
abbrev am_mc (M : am_M) : Nat := M.2.2.2.2.2.2.1
abbrev am_ms (M : am_M) : Nat := M.2.2.2.2.2.2.2.1
abbrev am_hs (M : am_M) : List (Nat × Nat × Nat × Nat) := M.2.2.2.2.2.2.2.2
/-- a program: what a place of a class's pool is; its constants; its methods; of class c the field f: 0 int, 1 boolean, 2 reference (final: 10, 11, 12); of class c the number of fields; of an array of references the class of what it holds -/
abbrev am_G : Type := (Nat → Nat → Nat × Nat × Nat × Nat) × (Nat → Nat → Option Value) × (Nat → am_M) × (Nat → Nat → Nat) × (Nat → Nat) × (Nat → Nat)
abbrev am_pl (G : am_G) : Nat → Nat → Nat × Nat × Nat × Nat := G.1
abbrev am_kc (G : am_G) : Nat → Nat → Option Value := G.2.1
abbrev am_mt (G : am_G) : Nat → am_M := G.2.2.1
abbrev am_ft (G : am_G) : Nat → Nat → Nat := G.2.2.2.1
abbrev am_nf (G : am_G) : Nat → Nat := G.2.2.2.2.1
abbrev am_ac (G : am_G) : Nat → Nat := G.2.2.2.2.2
/-- locals: a list of (place, value) -/
def am_lk (al : List (Nat × Value)) (i : Nat) : Option Value := match al with
  | [] => none
  | q :: r => if q.1 = i then some q.2 else am_lk r i
def am_s1 (al : List (Nat × Value)) (i : Nat) (v : Value) : List (Nat × Value) := (i, v) :: al.filter (fun q => !(q.1 == i) && !(q.1 + 1 == i && q.2.category == 2))
def am_vi (o : Option Value) (f : Int32 → Prop) : Prop := match o with
  | some (.int x) => f x
  | _ => False
def am_vl (o : Option Value) (f : Int64 → Prop) : Prop := match o with
  | some (.long x) => f x
  | _ => False
def am_vr (o : Option Value) (f : Nat → Prop) : Prop := match o with
  | some (.ref x) => f x
  | _ => False
def am_so {α : Type} (o : Option α) (f : α → Prop) : Prop := match o with
  | some x => f x
  | none => False
def am_w8 (st : List Value) : Nat := (st.map fun v => v.category).sum
/-- what only moves the operand stack -/
def am_pure : Instr → List Value → Option (Nat × List Value)
  | .iconst n, st => some (1, .int (Int32.ofInt n) :: st)
  | .bipush n, st => some (2, .int (Int8.ofInt n).toInt32 :: st)
  | .sipush n, st => some (3, .int (Int16.ofInt n).toInt32 :: st)
  | .lconst n, st => some (1, .long (Int64.ofNat (n : Nat)) :: st)
  | .iadd, .int y :: .int x :: r => some (1, .int (x + y) :: r)
  | .isub, .int y :: .int x :: r => some (1, .int (x - y) :: r)
  | .imul, .int y :: .int x :: r => some (1, .int (x * y) :: r)
  | .iand, .int y :: .int x :: r => some (1, .int (x &&& y) :: r)
  | .ior, .int y :: .int x :: r => some (1, .int (x ||| y) :: r)
  | .ixor, .int y :: .int x :: r => some (1, .int (x ^^^ y) :: r)
  | .ishl, .int y :: .int x :: r => some (1, .int (x <<< (y &&& 31)) :: r)
  | .ishr, .int y :: .int x :: r => some (1, .int (x >>> (y &&& 31)) :: r)
  | .iushr, .int y :: .int x :: r => some (1, .int (x.toUInt32 >>> (y.toUInt32 &&& Int32.toUInt32 31)).toInt32 :: r)
  | .i2l, .int x :: r => some (1, .long x.toInt64 :: r)
  | .l2i, .long x :: r => some (1, .int x.toInt32 :: r)
  | .land, .long y :: .long x :: r => some (1, .long (x &&& y) :: r)
  | .lor, .long y :: .long x :: r => some (1, .long (x ||| y) :: r)
  | .lshl, .int y :: .long x :: r => some (1, .long (x <<< (y.toInt64 &&& 63)) :: r)
  | .lshr, .int y :: .long x :: r => some (1, .long (x >>> (y.toInt64 &&& 63)) :: r)
  | .lushr, .int y :: .long x :: r => some (1, .long (x.toUInt64 >>> (y.toInt64.toUInt64 &&& Int64.toUInt64 63)).toInt64 :: r)
  | .lcmp, .long y :: .long x :: r => some (1, .int (lg_cmp x y) :: r)
  | .dup, .int x :: r => some (1, .int x :: .int x :: r)
  | .dup, .ref x :: r => some (1, .ref x :: .ref x :: r)
  | .dup2, .int x :: .ref y :: r => some (1, .int x :: .ref y :: .int x :: .ref y :: r)
  | .pop, .int _ :: r => some (1, r)
  | .pop, .ref _ :: r => some (1, r)
  | _, _ => none
/-- a branch: is it taken, how far, what stays -/
def am_br : Instr → List Value → Option (Bool × Int × List Value)
  | .goto off, st => some (true, off, st)
  | .ifCond .eq off, .int x :: r => some (decide (x = 0), off, r)
  | .ifCond .ne off, .int x :: r => some (decide (¬ x = 0), off, r)
  | .ifCond .lt off, .int x :: r => some (decide (x < 0), off, r)
  | .ifCond .ge off, .int x :: r => some (decide (0 ≤ x), off, r)
  | .ifCond .gt off, .int x :: r => some (decide (0 < x), off, r)
  | .ifCond .le off, .int x :: r => some (decide (x ≤ 0), off, r)
  | .if_icmp .eq off, .int y :: .int x :: r => some (decide (x = y), off, r)
  | .if_icmp .ne off, .int y :: .int x :: r => some (decide (¬ x = y), off, r)
  | .if_icmp .lt off, .int y :: .int x :: r => some (decide (x < y), off, r)
  | .if_icmp .ge off, .int y :: .int x :: r => some (decide (y ≤ x), off, r)
  | .if_icmp .gt off, .int y :: .int x :: r => some (decide (y < x), off, r)
  | .if_icmp .le off, .int y :: .int x :: r => some (decide (x ≤ y), off, r)
  | _, _ => none
/-- the first handler over pc for class x; f: the class that a place of the pool names -/
def am_hf (f : Nat → Nat) (hs : List (Nat × Nat × Nat × Nat)) (pc x : Nat) : Option Nat := match hs with
  | [] => none
  | q :: r => if q.1 ≤ pc ∧ pc < q.2.1 ∧ f q.2.2.2 = x then some q.2.2.1 else am_hf f r pc x
/-- where a switch goes -/
def am_sw : Instr → List Value → Option (Int × List Value)
  | .tableswitch d lo hi offs, .int x :: r => if x.toInt < lo ∨ hi < x.toInt then some (d, r) else (offs[(x.toInt - lo).toNat]?).map (fun o => (o, r))
  | .lookupswitch d ps, .int x :: r => if (ps.toList.zip (ps.toList.drop 1)).all (fun (a, next) => a.1 < next.1) = true then some (Op.lookupswitch.offset ps.toList d x.toInt, r) else none
  | _, _ => none
def am_tg (pc : Nat) (off : Int) (f : Nat → Prop) : Prop := (pc : Int) + off = (((pc : Int) + off).toNat : Int) ∧ f ((pc : Int) + off).toNat
def am_sti (st : List Value) (f : Int32 → List Value → Prop) : Prop := match st with
  | .int x :: r => f x r
  | _ => False
def am_str (st : List Value) (f : Nat → List Value → Prop) : Prop := match st with
  | .ref x :: r => f x r
  | _ => False
def am_stv (st : List Value) (f : Value → Nat → List Value → Prop) : Prop := match st with
  | v :: .ref a :: r => f v a r
  | _ => False
def am_get (G : am_G) (M : am_M) (idx : Nat) (h : am_H) (a : Nat) (f : Value → Prop) : Prop := match am_pl G (am_o M) idx with
  | (1, ci, fi, 0) => am_sh h a = some (ci, am_nf G ci) ∧ fi < am_nf G ci ∧ (if am_ft G ci fi % 10 = 2 then am_so (am_P h a fi) (fun j => f (.ref j)) else f (.int (am_I h a fi)))
  | _ => False
def am_put (G : am_G) (M : am_M) (idx : Nat) (h : am_H) (a : Nat) (v : Value) (f : am_H → Prop) : Prop := match am_pl G (am_o M) idx with
  | (1, ci, fi, 0) => am_sh h a = some (ci, am_nf G ci) ∧ fi < am_nf G ci ∧ (am_ft G ci fi < 10 ∨ ((am_y M).name = "<init>" ∧ am_o M = ci)) ∧
    (match v with
    | .int x => (am_ft G ci fi % 10 = 0 ∨ (am_ft G ci fi % 10 = 1 ∧ (x = 0 ∨ x = 1))) ∧ f (am_setI h (am_u2 (am_I h) a fi x))
    | .ref j => am_ft G ci fi % 10 = 2 ∧ f (am_setP h (am_u2 (am_P h) a fi (some j)))
    | _ => False)
  | _ => False
/-- an array's place is read: i of a -/
def am_ald (G : am_G) (ins : Instr) (h : am_H) (i : Int32) (a : Nat) (f : Value → Prop) : Prop := am_so (am_sh h a) (fun q => vp_in i q.2 ∧ (match ins with
  | .iaload => (q.1 = 100 ∨ (q.1 = 150 ∧ a = 0)) ∧ f (.int (am_I h a i.toNatClampNeg))
  | .baload => q.1 = 101 ∧ f (.int (am_I h a i.toNatClampNeg))
  | .laload => q.1 = 102 ∧ f (.long (am_L h a i.toNatClampNeg))
  | .aaload => (q.1 = 103 ∨ q.1 = 104) ∧ am_so (am_P h a i.toNatClampNeg) (fun j => f (.ref j))
  | _ => False))
/-- an array's place is written: v to i of a -/
def am_ast (G : am_G) (ins : Instr) (h : am_H) (v : Value) (i : Int32) (a : Nat) (f : am_H → Prop) : Prop := am_so (am_sh h a) (fun q => vp_in i q.2 ∧ (match ins, v with
  | .iastore, .int x => q.1 = 100 ∧ f (am_setI h (am_u2 (am_I h) a i.toNatClampNeg x))
  | .bastore, .int x => q.1 = 101 ∧ f (am_setI h (am_u2 (am_I h) a i.toNatClampNeg (vp_nar .boolean x)))
  | .lastore, .long x => q.1 = 102 ∧ f (am_setL h (am_u2 (am_L h) a i.toNatClampNeg x))
  | .aastore, .ref j => (q.1 = 103 ∨ q.1 = 104) ∧ am_sh h j = some (am_ac G q.1, am_nf G (am_ac G q.1)) ∧ am_ac G q.1 < 100 ∧ f (am_setP h (am_u2 (am_P h) a i.toNatClampNeg (some j)))
  | _, _ => False))
/-- behind a call -/
def am_cont (G : am_G) (M : am_M) (k : Nat → List (Nat × Value) → List Value → am_H → Nat → Nat → Prop) (Q : am_O → am_H → Prop) (pc : Nat) (al : List (Nat × Value)) (rest : List Value) (c u : Nat) (o : am_O) (h : am_H) : Prop := match o with
  | .inl v => k (pc + 3) al (v.toList ++ rest) h c u
  | .inr x => match am_hf (fun i => (am_pl G (am_o M) i).2.1) (am_hs M) pc x with
    | some t => x < 4 ∧ k t al [.ref (am_n h + am_g h)] h c u
    | none => am_hs M = [] ∧ Q (.inr x) h
/-- a call of method j with the arguments as -/
def am_inv (C : Nat → List Value → am_H → am_O → am_H → Prop) (G : am_G) (M : am_M) (k : Nat → List (Nat × Value) → List Value → am_H → Nat → Nat → Prop) (Q : am_O → am_H → Prop) (j : Nat) (as : List Value) (pc : Nat) (al : List (Nat × Value)) (rest : List Value) (h : am_H) (c u : Nat) : Prop :=
  am_w8 rest ≤ 8 ∧ c + am_mc (am_mt G j) ≤ am_mc M ∧ u + am_ms (am_mt G j) ≤ am_ms M ∧ ∃ (o : am_O) (h' : am_H), C j as h o h' ∧ am_cont G M k Q pc al rest (c + am_mc (am_mt G j)) (u + am_ms (am_mt G j)) o h'
/-- System.arraycopy of ints -/
def am_cpy (h : am_H) (st : List Value) (f : am_H → List Value → Prop) : Prop := match st with
  | .int n :: .int dp :: .ref a1 :: .int sp :: .ref a0 :: r => ∃ n0 n1, am_sh h a0 = some (100, n0) ∧ am_sh h a1 = some (100, n1) ∧ ¬ sp < 0 ∧ ¬ dp < 0 ∧ ¬ n < 0 ∧ sp.toNatClampNeg + n.toNatClampNeg ≤ n0 ∧ dp.toNatClampNeg + n.toNatClampNeg ≤ n1 ∧ am_w8 r ≤ 8 ∧
    f (am_setI h (am_u1 (am_I h) a1 (va_cpy (am_I h a0) (am_I h a1) sp.toNatClampNeg dp.toNatClampNeg n.toNatClampNeg))) r
  | _ => False
def am_newa (M : am_M) (t : Nat) (n : Int32) (h : am_H) (c u : Nat) (f : am_H → Nat → Nat → Prop) : Prop :=
  ¬ n < 0 ∧ n.toNatClampNeg ≤ 10000 ∧ am_g h = 0 ∧ c + 1 ≤ am_mc M ∧ u + n.toNatClampNeg ≤ am_ms M ∧ f (am_add h t n.toNatClampNeg) (c + 1) (u + n.toNatClampNeg)
/-- an instruction that moves the operand stack alone, or the place -/
def am_dflt (k : Nat → List (Nat × Value) → List Value → am_H → Nat → Nat → Prop) (ins : Instr) (len pc : Nat) (al : List (Nat × Value)) (st : List Value) (h : am_H) (c u : Nat) : Prop := match am_pure ins st with
  | some q => len = q.1 ∧ k (pc + len) al q.2 h c u
  | none => (match am_br ins st with
    | some q => len = 3 ∧ am_tg pc q.2.1 (fun t => if q.1 = true then k t al q.2.2 h c u else k (pc + 3) al q.2.2 h c u)
    | none => (match am_sw ins st with
      | some q => am_tg pc q.1 (fun t => k t al q.2 h c u)
      | none => False))
/-- one instruction: what must hold so that the rest k, or the end Q, is reached -/
def am_do (C : Nat → List Value → am_H → am_O → am_H → Prop) (G : am_G) (M : am_M) (k : Nat → List (Nat × Value) → List Value → am_H → Nat → Nat → Prop) (Q : am_O → am_H → Prop) (ins : Instr) (len pc : Nat) (al : List (Nat × Value)) (st : List Value) (h : am_H) (c u : Nat) : Prop :=
  match ins with
  | .iload_n i => len = 1 ∧ am_vi (am_lk al i) (fun x => k (pc + 1) al (.int x :: st) h c u)
  | .iload i => len = 2 ∧ am_vi (am_lk al i) (fun x => k (pc + 2) al (.int x :: st) h c u)
  | .lload_n i => len = 1 ∧ am_vl (am_lk al i) (fun x => k (pc + 1) al (.long x :: st) h c u)
  | .lload i => len = 2 ∧ am_vl (am_lk al i) (fun x => k (pc + 2) al (.long x :: st) h c u)
  | .aload_n i => len = 1 ∧ am_vr (am_lk al i) (fun x => k (pc + 1) al (.ref x :: st) h c u)
  | .aload i => len = 2 ∧ am_vr (am_lk al i) (fun x => k (pc + 2) al (.ref x :: st) h c u)
  | .istore_n i => len = 1 ∧ (i : Nat) < am_mL M ∧ am_sti st (fun x r => k (pc + 1) (am_s1 al i (.int x)) r h c u)
  | .istore i => len = 2 ∧ i < am_mL M ∧ am_sti st (fun x r => k (pc + 2) (am_s1 al i (.int x)) r h c u)
  | .astore_n i => len = 1 ∧ (i : Nat) < am_mL M ∧ am_str st (fun x r => k (pc + 1) (am_s1 al i (.ref x)) r h c u)
  | .astore i => len = 2 ∧ i < am_mL M ∧ am_str st (fun x r => k (pc + 2) (am_s1 al i (.ref x)) r h c u)
  | .iinc i n => len = 3 ∧ i < am_mL M ∧ am_vi (am_lk al i) (fun x => k (pc + 3) (am_s1 al i (.int (x + Int32.ofInt n))) st h c u)
  | .irem => len = 1 ∧ (match st with
    | .int y :: .int x :: r => ¬ y = 0 ∧ k (pc + 1) al (.int (x - x / y * y) :: r) h c u
    | _ => False)
  | .ldc i => len = 2 ∧ am_vi (am_kc G (am_o M) i) (fun x => k (pc + 2) al (.int x :: st) h c u)
  | .ldc_w i => len = 3 ∧ am_vi (am_kc G (am_o M) i) (fun x => k (pc + 3) al (.int x :: st) h c u)
  | .ldc2_w i => len = 3 ∧ am_vl (am_kc G (am_o M) i) (fun x => k (pc + 3) al (.long x :: st) h c u)
  | .getfield i => len = 3 ∧ am_str st (fun a r => am_get G M i h a (fun v => k (pc + 3) al (v :: r) h c u))
  | .putfield i => len = 3 ∧ am_stv st (fun v a r => am_put G M i h a v (fun h' => k (pc + 3) al r h' c u))
  | .iaload => len = 1 ∧ am_sti st (fun i r => am_str r (fun a r => am_ald G .iaload h i a (fun v => k (pc + 1) al (v :: r) h c u)))
  | .baload => len = 1 ∧ am_sti st (fun i r => am_str r (fun a r => am_ald G .baload h i a (fun v => k (pc + 1) al (v :: r) h c u)))
  | .laload => len = 1 ∧ am_sti st (fun i r => am_str r (fun a r => am_ald G .laload h i a (fun v => k (pc + 1) al (v :: r) h c u)))
  | .aaload => len = 1 ∧ am_sti st (fun i r => am_str r (fun a r => am_ald G .aaload h i a (fun v => k (pc + 1) al (v :: r) h c u)))
  | .iastore => len = 1 ∧ (match st with
    | v :: r => am_sti r (fun i r => am_str r (fun a r => am_ast G .iastore h v i a (fun h' => k (pc + 1) al r h' c u)))
    | _ => False)
  | .bastore => len = 1 ∧ (match st with
    | v :: r => am_sti r (fun i r => am_str r (fun a r => am_ast G .bastore h v i a (fun h' => k (pc + 1) al r h' c u)))
    | _ => False)
  | .lastore => len = 1 ∧ (match st with
    | v :: r => am_sti r (fun i r => am_str r (fun a r => am_ast G .lastore h v i a (fun h' => k (pc + 1) al r h' c u)))
    | _ => False)
  | .aastore => len = 1 ∧ (match st with
    | v :: r => am_sti r (fun i r => am_str r (fun a r => am_ast G .aastore h v i a (fun h' => k (pc + 1) al r h' c u)))
    | _ => False)
  | .arraylength => len = 1 ∧ am_str st (fun a r => am_so (am_sh h a) (fun q => (100 ≤ q.1 ∧ q.1 ≤ 104 ∨ (q.1 = 150 ∧ a = 0)) ∧ k (pc + 1) al (.int (Int32.ofNat q.2) :: r) h c u))
  | .new i => len = 3 ∧ (match am_pl G (am_o M) i with
    | (3, ci, _, _) => am_g h = 0 ∧ c + 1 ≤ am_mc M ∧ u + am_nf G ci ≤ am_ms M ∧ ci < 100 ∧ k (pc + 3) al (.ref (am_n h + 1) :: st) (am_add h ci (am_nf G ci)) (c + 1) (u + am_nf G ci)
    | (5, x, ic, _) => am_hs M = [] ∧ c + 1 ≤ am_mc M ∧ u + 6 ≤ am_ms M ∧ am_w8 st ≤ 8 ∧ decode (am_b M) (pc + 3) = .ok (.dup, 1) ∧ decode (am_b M) (pc + 4) = .ok (.invokespecial ic, 3) ∧ decode (am_b M) (pc + 7) = .ok (.athrow, 1) ∧ Q (.inr x) (am_setG h (am_g h + 1))
    | _ => False)
  | .newarray ty => len = 2 ∧ am_sti st (fun n r => (match ty with
    | .int => am_newa M 100 n h c u (fun h' c' u' => k (pc + 2) al (.ref (am_n h + 1) :: r) h' c' u')
    | .boolean => am_newa M 101 n h c u (fun h' c' u' => k (pc + 2) al (.ref (am_n h + 1) :: r) h' c' u')
    | .long => am_newa M 102 n h c u (fun h' c' u' => k (pc + 2) al (.ref (am_n h + 1) :: r) h' c' u')
    | _ => False))
  | .anewarray i => len = 3 ∧ am_sti st (fun n r => (match am_pl G (am_o M) i with
    | (3, _, t, _) => (t = 103 ∨ t = 104) ∧ am_newa M t n h c u (fun h' c' u' => k (pc + 3) al (.ref (am_n h + 1) :: r) h' c' u')
    | _ => False))
  | .invokestatic i => len = 3 ∧ (match am_pl G (am_o M) i with
    | (2, j, 1, _) => am_np (am_mt G j) ≤ st.length ∧ am_inv C G M k Q j (st.take (am_np (am_mt G j))).reverse pc al (st.drop (am_np (am_mt G j))) h c u
    | (2, j, 4, _) => am_np (am_mt G j) ≤ st.length ∧ am_inv C G M k Q j (st.take (am_np (am_mt G j))).reverse pc al (st.drop (am_np (am_mt G j))) h c u
    | (8, _, _, _) => am_cpy h st (fun h' r => k (pc + 3) al r h' c u)
    | (10, _, _, _) => am_sti st (fun y r => am_sti r (fun x r => am_w8 r ≤ 8 ∧ k (pc + 3) al (.int (if y < x then y else x) :: r) h c u))
    | (11, _, _, _) => am_sti st (fun y r => am_sti r (fun x r => am_w8 r ≤ 8 ∧ k (pc + 3) al (.int (if x < y then y else x) :: r) h c u))
    | _ => False)
  | .invokevirtual i => len = 3 ∧ (match am_pl G (am_o M) i with
    | (2, j, 0, _) => am_np (am_mt G j) ≤ st.length ∧ am_str (st.drop (am_np (am_mt G j))) (fun b r => am_sh h b = some (am_o (am_mt G j), am_nf G (am_o (am_mt G j))) ∧ am_inv C G M k Q j (.ref b :: (st.take (am_np (am_mt G j))).reverse) pc al r h c u)
    | (2, j, 3, _) => am_np (am_mt G j) ≤ st.length ∧ am_str (st.drop (am_np (am_mt G j))) (fun b r => am_sh h b = some (am_o (am_mt G j), am_nf G (am_o (am_mt G j))) ∧ am_inv C G M k Q j (.ref b :: (st.take (am_np (am_mt G j))).reverse) pc al r h c u)
    | _ => False)
  | .invokespecial i => len = 3 ∧ (match am_pl G (am_o M) i with
    | (2, j, 2, _) => am_np (am_mt G j) ≤ st.length ∧ am_str (st.drop (am_np (am_mt G j))) (fun b r => am_inv C G M k Q j (.ref b :: (st.take (am_np (am_mt G j))).reverse) pc al r h c u)
    | (7, _, _, _) => am_str st (fun _ r => am_w8 r ≤ 8 ∧ k (pc + 3) al r h c u)
    | _ => False)
  | .ireturn => len = 1 ∧ (match st with
    | [.int x] => (match am_rt M with
      | some .int => Q (.inl (some (.int x))) h
      | some .boolean => (x = 0 ∨ x = 1) ∧ Q (.inl (some (.int x))) h
      | _ => False)
    | _ => False)
  | .areturn => len = 1 ∧ (match st with
    | [.ref a] => (match am_rt M with
      | some (.object _) => Q (.inl (some (.ref a))) h
      | _ => False)
    | _ => False)
  | .return_ => len = 1 ∧ (match st with
    | [] => am_rt M = none ∧ Q (.inl none) h
    | _ => False)
  | _ => am_dflt k ins len pc al st h c u
/-- the instructions that am_dflt is for -/
def am_isd : Instr → Bool
  | .iload_n _ => false
  | .iload _ => false
  | .lload_n _ => false
  | .lload _ => false
  | .aload_n _ => false
  | .aload _ => false
  | .istore_n _ => false
  | .istore _ => false
  | .astore_n _ => false
  | .astore _ => false
  | .ldc _ => false
  | .ldc_w _ => false
  | .ldc2_w _ => false
  | .getfield _ => false
  | .putfield _ => false
  | .new _ => false
  | .newarray _ => false
  | .anewarray _ => false
  | .invokestatic _ => false
  | .invokevirtual _ => false
  | .invokespecial _ => false
  | .iinc _ _ => false
  | .irem => false
  | .iaload => false
  | .baload => false
  | .laload => false
  | .aaload => false
  | .iastore => false
  | .bastore => false
  | .lastore => false
  | .aastore => false
  | .arraylength => false
  | .ireturn => false
  | .areturn => false
  | .return_ => false
  | _ => true
theorem am_do_d {C : Nat → List Value → am_H → am_O → am_H → Prop} {G : am_G} {M : am_M} {k : Nat → List (Nat × Value) → List Value → am_H → Nat → Nat → Prop} {Q : am_O → am_H → Prop} {ins : Instr} (hd : am_isd ins = true) {len pc : Nat} {al : List (Nat × Value)} {st : List Value} {h : am_H} {c u : Nat} : am_do C G M k Q ins len pc al st h c u = am_dflt k ins len pc al st h c u := by
  cases ins <;> first | rfl | cases hd
def am_step (C : Nat → List Value → am_H → am_O → am_H → Prop) (G : am_G) (M : am_M) (k : Nat → List (Nat × Value) → List Value → am_H → Nat → Nat → Prop) (Q : am_O → am_H → Prop) (pc : Nat) (al : List (Nat × Value)) (st : List Value) (h : am_H) (c u : Nat) : Prop :=
  match decode (am_b M) pc with
  | .ok q => am_do C G M k Q q.1 q.2 pc al st h c u
  | .error _ => False
/-- from here the method comes to an end with Q: whatever is closed under steps backwards holds here -/
def am_T (C : Nat → List Value → am_H → am_O → am_H → Prop) (G : am_G) (M : am_M) (Q : am_O → am_H → Prop) (pc : Nat) (al : List (Nat × Value)) (st : List Value) (h : am_H) (c u : Nat) : Prop :=
  ∀ K : Nat → List (Nat × Value) → List Value → am_H → Nat → Nat → Prop, (∀ pc al st h c u, am_step C G M K Q pc al st h c u → K pc al st h c u) → K pc al st h c u
/-- method j at as in h ends with o in h', by calls at most d deep -/
def am_C (G : am_G) : Nat → Nat → List Value → am_H → am_O → am_H → Prop
  | 0 => fun _ _ _ _ _ => False
  | d + 1 => fun j as h o h' => am_w8 as ≤ am_mL (am_mt G j) ∧ (∀ x, o = .inr x → 5 < d + 1) ∧ am_T (am_C G d) G (am_mt G j) (fun o1 h1 => o1 = o ∧ h1 = h') 0 (lv_args 0 as) [] h 0 0
