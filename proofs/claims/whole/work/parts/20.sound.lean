/-! Part 20: the machine of part 10 and the JVM: the picture of a heap, and rows of loads, stores, branches. -/
/-- where cell k lies: the script is cell 0 -/
def am_ad (b0 b : Nat) : Nat → Nat
  | 0 => b0
  | k + 1 => b + k
def am_tv (b0 b : Nat) (v : Value) : Value := match v with
  | .ref k => .ref (am_ad b0 b k)
  | w => w
theorem am_tv_cat (b0 b : Nat) (v : Value) : (am_tv b0 b v).category = v.category := by
  cases v <;> rfl
def am_tl (b0 b : Nat) (al : List (Nat × Value)) : List (Nat × Value) := al.map (fun q => (q.1, am_tv b0 b q.2))
theorem am_tl_filter (b0 b : Nat) (i : Nat) (al : List (Nat × Value)) : (am_tl b0 b al).filter (fun q => !(q.1 == i) && !(q.1 + 1 == i && q.2.category == 2)) = am_tl b0 b (al.filter (fun q => !(q.1 == i) && !(q.1 + 1 == i && q.2.category == 2))) := by
  unfold am_tl
  rw [List.filter_map]
  congr 1
  apply List.filter_congr
  intro q _
  simp [Function.comp, am_tv_cat]
theorem am_lk_mem {al : List (Nat × Value)} {i : Nat} {v : Value} (h : am_lk al i = some v) : (i, v) ∈ al := by
  induction al with
  | nil => simp [am_lk] at h
  | cons q r ih =>
    unfold am_lk at h
    by_cases e : q.1 = i
    · rw [if_pos e] at h
      cases h
      rw [← e]
      exact List.mem_cons_self
    · rw [if_neg e] at h
      exact List.mem_cons_of_mem _ (ih h)
theorem am_lk_at {ls : Array Slot} {nL b0 b : Nat} {al : List (Nat × Value)} (hl : lv_has ls nL (am_tl b0 b al)) {i : Nat} {v : Value} (h : am_lk al i = some v) : ls[i]? = some (.val (am_tv b0 b v)) :=
  hl.2.2 (i, am_tv b0 b v) (List.mem_map.mpr ⟨(i, v), am_lk_mem h, rfl⟩)
theorem am_args_map (b0 b : Nat) : ∀ (vs : List Value) (i : Nat), lv_args i (vs.map (am_tv b0 b)) = am_tl b0 b (lv_args i vs)
  | [], _ => rfl
  | v :: vs, i => by
    show (i, am_tv b0 b v) :: lv_args (if (am_tv b0 b v).category = 2 then i + 2 else i + 1) (vs.map (am_tv b0 b)) = (i, am_tv b0 b v) :: am_tl b0 b (lv_args (if v.category = 2 then i + 2 else i + 1) vs)
    rw [am_tv_cat, am_args_map b0 b vs]
theorem am_w8_map (b0 b : Nat) (st : List Value) : ((st.map (am_tv b0 b)).map fun v => v.category).sum = am_w8 st := by
  unfold am_w8
  rw [List.map_map]
  congr 1
  apply List.map_congr_left
  intro v _
  exact am_tv_cat b0 b v
/-- the picture of a cell -/
def am_ce (G : am_G) (b0 b : Nat) (cA : Nat → ClassId) (h : am_H) (a : Nat) : va_E := match am_sh h a with
  | some (t, N) =>
    if t < 100 then .inr (t, (List.range N).map (fun j => if am_ft G t j % 10 = 2 then va_rf ((am_P h a j).map (am_ad b0 b)) else .int (am_I h a j)))
    else if t < 102 then .inl (cA t, N, .inl (am_I h a))
    else if t = 102 then .inl (cA t, N, .inr (.inl (am_L h a)))
    else .inl (cA t, N, .inr (.inr (.inr (.inr (fun j => (am_P h a j).map (am_ad b0 b))))))
  | none => .inr (0, [])
def am_wl (G : am_G) (b0 b : Nat) (cA : Nat → ClassId) (h : am_H) : va_W := (List.range (am_n h)).map (fun k => (b + k, am_ce G b0 b cA h (k + 1)))
theorem am_wl_at {G : am_G} {b0 b : Nat} {cA : Nat → ClassId} {h : am_H} {a : Nat} (h0 : a ≠ 0) (hn : a ≤ am_n h) : (am_wl G b0 b cA h)[a - 1]? = some (am_ad b0 b a, am_ce G b0 b cA h a) := by
  obtain ⟨k, rfl⟩ : ∃ k, a = k + 1 := ⟨a - 1, by omega⟩
  unfold am_wl
  rw [List.getElem?_map, List.getElem?_range (by omega)]
  rfl
theorem am_wl_D {G : am_G} {b0 b : Nat} {cA : Nat → ClassId} {h : am_H} : va_D (fun q => b ≤ q) (am_wl G b0 b cA h) := by
  have key : ∀ (i : Nat) (p : Nat × va_E), (am_wl G b0 b cA h)[i]? = some p → p.1 = b + i := by
    intro i p hp
    unfold am_wl at hp
    rw [List.getElem?_map] at hp
    cases hr : (List.range (am_n h))[i]? with
    | none => rw [hr] at hp; cases hp
    | some z =>
      rw [hr] at hp
      have hz : z = i := by
        have := List.getElem?_eq_some_iff.mp hr
        obtain ⟨h1, h2⟩ := this
        rw [List.getElem_range] at h2
        exact h2.symm
      cases hp
      simp [hz]
  refine ⟨fun i j p q hi hj e => ?_, fun k q hk => ?_⟩
  · have h1 := key i p hi
    have h2 := key j q hj
    omega
  · have h1 := key k q hk
    show b ≤ q.1
    omega
/-- one cell changes -/
theorem am_wl_set {G : am_G} {b0 b : Nat} {cA : Nat → ClassId} {h h' : am_H} {a : Nat} {e : va_E} (h0 : a ≠ 0) (hn : am_n h' = am_n h) (he : am_ce G b0 b cA h' a = e) (ho : ∀ x, x ≠ a → am_ce G b0 b cA h' x = am_ce G b0 b cA h x) : (am_wl G b0 b cA h).set (a - 1) (am_ad b0 b a, e) = am_wl G b0 b cA h' := by
  obtain ⟨k, rfl⟩ : ∃ k, a = k + 1 := ⟨a - 1, by omega⟩
  apply List.ext_getElem?
  intro i
  unfold am_wl
  rw [List.getElem?_set, List.getElem?_map, List.getElem?_map, hn]
  simp only [List.length_map, List.length_range, Nat.add_sub_cancel]
  by_cases hi : k = i
  · subst hi
    rw [if_pos rfl]
    by_cases hl : k < am_n h
    · rw [if_pos hl, List.getElem?_range hl, Option.map_some, ← he]
      rfl
    · rw [if_neg hl, List.getElem?_eq_none (by simpa using hl)]
      rfl
  · rw [if_neg hi]
    by_cases hl : i < am_n h
    · rw [List.getElem?_range hl, Option.map_some, Option.map_some, ho (i + 1) (by omega)]
    · rw [List.getElem?_eq_none (by simpa using hl)]
      rfl
/-- a cell comes -/
theorem am_wl_add {G : am_G} {b0 b : Nat} {cA : Nat → ClassId} {h h' : am_H} {e : va_E} (hn : am_n h' = am_n h + 1) (he : am_ce G b0 b cA h' (am_n h + 1) = e) (ho : ∀ x, x ≤ am_n h → am_ce G b0 b cA h' x = am_ce G b0 b cA h x) : am_wl G b0 b cA h ++ [(b + am_n h, e)] = am_wl G b0 b cA h' := by
  unfold am_wl
  rw [hn, List.range_succ, List.map_append, ← he]
  congr 1
  apply List.map_congr_left
  intro k hk
  rw [ho (k + 1) (by have := List.mem_range.mp hk; omega)]
/-- the heap H holds the picture h: its cells from b on, one behind the other -/
def am_X (G : am_G) (cl : List vw_C) (D : va_G) (cA : Nat → ClassId) (b0 b L : Nat) (xs : Nat → Int32) (h : am_H) (H : Heap) : Prop :=
  va_P D cl (am_wl G b0 b cA h) H ∧ H.size = b + am_n h + am_g h ∧ (∀ a q, am_sh h a = some q → a ≤ am_n h ∧ (a = 0 → q = (150, L))) ∧ am_I h 0 = xs ∧ ∀ (q : Nat) (ce : Cell), b ≤ q → H[q]? = some ce → ce.vm.isStatics = false
def am_tys (cl : List vw_C) (G : am_G) (own : Nat → String) (cA : Nat → ClassId) : List (ClassId × FieldType) := [(cA 100, .int), (cA 101, .boolean), (cA 102, .long), (cA 103, .object (own (am_ac G 103))), (cA 104, .object (own (am_ac G 104)))]
/-- what the tables say, and the script -/
def am_Y (G : am_G) (cl : List vw_C) (own : Nat → String) (D : va_G) (cA : Nat → ClassId) (b0 b L : Nat) (xs : Nat → Int32) (U : State) : Prop :=
  va_K D cl (am_tys cl G own cA) U ∧ b0 < b ∧ b ≤ U.heap.size ∧ va_X b0 L xs U U.heap ∧ ∀ (q : Nat) (ce : Cell), b ≤ q → U.heap[q]? = some ce → ce.vm.isStatics = false
/-- a class of the program -/
def am_ok (G : am_G) (cl : List vw_C) (own : Nat → String) (WS : List Cond) (ci : Nat) : Prop :=
  ∃ (T : u_T) (ty : Nat → FieldType), cl[ci]? = some (own ci, T, am_nf G ci) ∧ ci < 100 ∧ (∀ w ∈ u_ws (own ci) T (am_nf G ci), w ∈ WS) ∧ (∀ k, k < am_nf G ci → parseFieldDescriptor (T k).2.2.1 = some (ty k)) ∧
    (∀ a, a < am_nf G ci → ∀ b, b < am_nf G ci → a ≠ b → (T a).2.1 ≠ (T b).2.1) ∧ (∀ k, k < am_nf G ci → (T k).1 = own ci) ∧
    (∀ k, k < am_nf G ci → (am_ft G ci k % 10 = 0 ∧ ty k = .int) ∨ (am_ft G ci k % 10 = 1 ∧ ty k = .boolean) ∨ (am_ft G ci k % 10 = 2 ∧ ((∃ n, ty k = .object n) ∨ ∃ t, ty k = .array t))) ∧
    (∀ k, k < am_nf G ci → (T k).2.2.2 = decide (10 ≤ am_ft G ci k)) ∧
    (∀ o idx fi, am_pl G o idx = (1, ci, fi, 0) → fi < am_nf G ci → Cond.fieldLink (own o) idx (own ci) (T fi).2.1 (T fi).2.2.1 ∈ WS)
section AMW
variable {p : Program} {l : Launch} {e : Env} {R : Room} {s : State} {m : MethodId} {args : Array Value} {below : List Frame} {meth : Method} {c : Code} {H : Heap} {locs : List Loc} {cells slots : Nat} {Q : State → Prop}
variable {cc : ByteArray} {pc len : Nat} {ls : Array Slot} {b0 b : Nat}
theorem am_mono {Q2 : State → Prop} {g : JFrame} (hq : ∀ t, Q t → Q2 t) (w : W p l e R s m args below meth c H locs cells slots Q g) : W p l e R s m args below meth c H locs cells slots Q2 g := fun T hT X => by
  obtain ⟨t, h1, h2⟩ := w T hT X
  exact ⟨t, h1, hq t h2⟩
/-- what only moves the operand stack -/
theorem am_r_pure (hx : p.tables.exec = Jvm.exec) (hb : c.code = cc) {ins : Instr} {st : List Value} {q : Nat × List Value} (hp : am_pure ins st = some q) (hd : decode cc pc = .ok (ins, len)) (hlen : len = q.1)
    (k : W p l e R s m args below meth c H locs cells slots Q (F0 m (pc + len) ls (q.2.map (am_tv b0 b)))) : W p l e R s m args below meth c H locs cells slots Q (F0 m pc ls (st.map (am_tv b0 b))) := by
  unfold am_pure at hp
  split at hp <;> cases hp <;> dsimp only at hlen k <;> subst hlen
  · exact lv_iconst hx hb hd rfl k
  · exact lv_bipush hx hb hd rfl k
  · exact lv_sipush hx hb hd rfl k
  · exact lv_lconst hx hb hd rfl k
  · exact lv_iadd hx hb hd k
  · exact lv_isub hx hb hd k
  · exact lv_imul hx hb hd k
  · exact lv_iand hx hb hd k
  · exact lv_ior hx hb hd k
  · exact lv_ixor hx hb hd k
  · exact lv_ishl hx hb hd k
  · exact lv_ishr hx hb hd k
  · exact lv_iushr hx hb hd rfl k
  · exact lv_i2l hx hb hd rfl k
  · exact lv_l2i hx hb hd rfl k
  · exact lv_land hx hb hd k
  · exact lv_lor hx hb hd k
  · exact lv_lshl hx hb hd rfl k
  · exact lv_lshr hx hb hd rfl k
  · exact lv_lushr hx hb hd rfl k
  · exact W.lcmp hx hb hd k
  · exact lv_dup hx hb hd rfl k
  · exact lv_dup hx hb hd rfl k
  · exact lv_dup2_11 hx hb hd rfl rfl k
  · exact lv_pop hx hb hd rfl k
  · exact lv_pop hx hb hd rfl k
/-- branches -/
theorem am_r_br (hx : p.tables.exec = Jvm.exec) (hb : c.code = cc) {ins : Instr} {st : List Value} {q : Bool × Int × List Value} (hp : am_br ins st = some q) (hd : decode cc pc = .ok (ins, 3)) {t : Nat} (ht : (pc : Int) + q.2.1 = (t : Int))
    (kt : q.1 = true → W p l e R s m args below meth c H locs cells slots Q (F0 m t ls (q.2.2.map (am_tv b0 b))))
    (kf : q.1 = false → W p l e R s m args below meth c H locs cells slots Q (F0 m (pc + 3) ls (q.2.2.map (am_tv b0 b)))) : W p l e R s m args below meth c H locs cells slots Q (F0 m pc ls (st.map (am_tv b0 b))) := by
  unfold am_br at hp
  split at hp <;> cases hp <;> dsimp only at ht kt kf
  · exact lv_goto hx hb hd ht (kt rfl)
  · exact lv_if_eq hx hb hd ht (fun z => kt (decide_eq_true z)) (fun z => kf (decide_eq_false z))
  · exact lv_if_ne hx hb hd ht (fun z => kt (decide_eq_true z)) (fun z => kf (decide_eq_false (fun w => w z)))
  · exact lv_if_lt hx hb hd ht (fun z => kt (decide_eq_true z)) (fun z => kf (decide_eq_false z))
  · exact lv_if_ge hx hb hd ht (fun z => kt (decide_eq_true z)) (fun z => kf (decide_eq_false z))
  · exact lv_if_gt hx hb hd ht (fun z => kt (decide_eq_true z)) (fun z => kf (decide_eq_false z))
  · exact lv_if_le hx hb hd ht (fun z => kt (decide_eq_true z)) (fun z => kf (decide_eq_false z))
  · exact lv_icmp_eq hx hb hd ht (fun z => kt (decide_eq_true z)) (fun z => kf (decide_eq_false z))
  · exact lv_icmp_ne hx hb hd ht (fun z => kt (decide_eq_true z)) (fun z => kf (decide_eq_false (fun w => w z)))
  · exact lv_icmp_lt hx hb hd ht (fun z => kt (decide_eq_true z)) (fun z => kf (decide_eq_false z))
  · exact lv_icmp_ge hx hb hd ht (fun z => kt (decide_eq_true z)) (fun z => kf (decide_eq_false z))
  · exact lv_icmp_gt hx hb hd ht (fun z => kt (decide_eq_true z)) (fun z => kf (decide_eq_false z))
  · exact lv_icmp_le hx hb hd ht (fun z => kt (decide_eq_true z)) (fun z => kf (decide_eq_false z))
/-- switches -/
theorem am_r_sw (hx : p.tables.exec = Jvm.exec) (hb : c.code = cc) {ins : Instr} {st : List Value} {q : Int × List Value} (hp : am_sw ins st = some q) (hd : decode cc pc = .ok (ins, len)) {t : Nat} (ht : (pc : Int) + q.1 = (t : Int))
    (k : W p l e R s m args below meth c H locs cells slots Q (F0 m t ls (q.2.map (am_tv b0 b)))) : W p l e R s m args below meth c H locs cells slots Q (F0 m pc ls (st.map (am_tv b0 b))) := by
  unfold am_sw at hp
  split at hp
  · rename_i d lo hi offs x r
    by_cases h1 : x.toInt < lo ∨ hi < x.toInt
    · rw [if_pos h1] at hp
      cases hp
      exact lv_tableOut hx hb hd h1 ht k
    · rw [if_neg h1] at hp
      cases ho : offs[(x.toInt - lo).toNat]? with
      | none => rw [ho] at hp; cases hp
      | some o =>
        rw [ho] at hp
        cases hp
        exact lv_tableIn hx hb hd (fun z => h1 (Or.inl z)) (fun z => h1 (Or.inr z)) ho ht k
  · rename_i d ps x r
    split at hp
    · rename_i h1
      cases hp
      exact lv_lookup hx hb hd h1 rfl ht k
    · cases hp
  · cases hp
end AMW
