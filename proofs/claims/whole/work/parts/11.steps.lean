/-! Part 11: a step of the machine goes on at one place, or ends once -/
theorem am_vi_s {o : Option Value} {f : Int32 → Prop} (h : am_vi o f) : ∃ x, o = some (.int x) ∧ f x := by
  cases o with
  | none => exact h.elim
  | some v => cases v <;> first | exact ⟨_, rfl, h⟩ | exact h.elim
theorem am_vl_s {o : Option Value} {f : Int64 → Prop} (h : am_vl o f) : ∃ x, o = some (.long x) ∧ f x := by
  cases o with
  | none => exact h.elim
  | some v => cases v <;> first | exact ⟨_, rfl, h⟩ | exact h.elim
theorem am_vr_s {o : Option Value} {f : Nat → Prop} (h : am_vr o f) : ∃ x, o = some (.ref x) ∧ f x := by
  cases o with
  | none => exact h.elim
  | some v => cases v <;> first | exact ⟨_, rfl, h⟩ | exact h.elim
theorem am_so_s {α : Type} {o : Option α} {f : α → Prop} (h : am_so o f) : ∃ x, o = some x ∧ f x := by
  cases o with
  | none => exact h.elim
  | some v => exact ⟨_, rfl, h⟩
theorem am_sti_s {st : List Value} {f : Int32 → List Value → Prop} (h : am_sti st f) : ∃ x r, st = .int x :: r ∧ f x r := by
  cases st with
  | nil => exact h.elim
  | cons v r => cases v <;> first | exact ⟨_, _, rfl, h⟩ | exact h.elim
theorem am_str_s {st : List Value} {f : Nat → List Value → Prop} (h : am_str st f) : ∃ x r, st = .ref x :: r ∧ f x r := by
  cases st with
  | nil => exact h.elim
  | cons v r => cases v <;> first | exact ⟨_, _, rfl, h⟩ | exact h.elim
theorem am_stv_s {st : List Value} {f : Value → Nat → List Value → Prop} (h : am_stv st f) : ∃ v a r, st = v :: .ref a :: r ∧ f v a r := by
  cases st with
  | nil => exact h.elim
  | cons v r =>
    cases r with
    | nil => cases v <;> exact h.elim
    | cons w r => cases w <;> first | exact ⟨_, _, _, rfl, h⟩ | (cases v <;> exact h.elim)
/-- one use of what comes next -/
def am_One (P : (Nat → List (Nat × Value) → List Value → am_H → Nat → Nat → Prop) → (am_O → am_H → Prop) → Prop) (K : Nat → List (Nat × Value) → List Value → am_H → Nat → Nat → Prop) (Q : am_O → am_H → Prop) : Prop :=
  (∃ pc al st h c u, K pc al st h c u ∧ ∀ K' Q', K' pc al st h c u → P K' Q') ∨ (∃ o h, Q o h ∧ ∀ K' Q', Q' o h → P K' Q')
theorem am_One_k {P : (Nat → List (Nat × Value) → List Value → am_H → Nat → Nat → Prop) → (am_O → am_H → Prop) → Prop} {K : Nat → List (Nat × Value) → List Value → am_H → Nat → Nat → Prop} {Q : am_O → am_H → Prop} {pc : Nat} {al : List (Nat × Value)} {st : List Value} {h : am_H} {c u : Nat} (hk : K pc al st h c u) (hp : ∀ K' Q', K' pc al st h c u → P K' Q') : am_One P K Q := Or.inl ⟨pc, al, st, h, c, u, hk, hp⟩
theorem am_One_q {P : (Nat → List (Nat × Value) → List Value → am_H → Nat → Nat → Prop) → (am_O → am_H → Prop) → Prop} {K : Nat → List (Nat × Value) → List Value → am_H → Nat → Nat → Prop} {Q : am_O → am_H → Prop} {o : am_O} {h : am_H} (hk : Q o h) (hp : ∀ K' Q', Q' o h → P K' Q') : am_One P K Q := Or.inr ⟨o, h, hk, hp⟩
section AMO
variable {C C2 : Nat → List Value → am_H → am_O → am_H → Prop} {G : am_G} {M : am_M} {K : Nat → List (Nat × Value) → List Value → am_H → Nat → Nat → Prop} {Q : am_O → am_H → Prop}
theorem am_one_dflt {ins : Instr} {len pc c u : Nat} {al : List (Nat × Value)} {st : List Value} {h : am_H} (hh : am_dflt K ins len pc al st h c u) : am_One (fun K' _ => am_dflt K' ins len pc al st h c u) K Q := by
  unfold am_dflt at hh
  split at hh
  · rename_i q hq
    exact am_One_k hh.2 (fun K' Q' h' => by unfold am_dflt; rw [hq]; exact ⟨hh.1, h'⟩)
  · rename_i hp
    split at hh
    · rename_i q hq
      obtain ⟨h1, h2, h3⟩ := hh
      by_cases hb : q.1 = true
      · rw [if_pos hb] at h3
        exact am_One_k h3 (fun K' Q' h' => by unfold am_dflt; rw [hp, hq]; exact ⟨h1, h2, by dsimp only; rw [if_pos hb]; exact h'⟩)
      · rw [if_neg hb] at h3
        exact am_One_k h3 (fun K' Q' h' => by unfold am_dflt; rw [hp, hq]; exact ⟨h1, h2, by dsimp only; rw [if_neg hb]; exact h'⟩)
    · rename_i hb
      split at hh
      · rename_i q hq
        exact am_One_k hh.2 (fun K' Q' h' => by unfold am_dflt; rw [hp, hb, hq]; exact ⟨hh.1, h'⟩)
      · exact hh.elim
theorem am_one_inv (hCC : ∀ j as h o h', C j as h o h' → C2 j as h o h') {j : Nat} {as : List Value} {pc : Nat} {al : List (Nat × Value)} {rest : List Value} {h : am_H} {c u : Nat} (hh : am_inv C G M K Q j as pc al rest h c u) : am_One (fun K' Q' => am_inv C2 G M K' Q' j as pc al rest h c u) K Q := by
  obtain ⟨h1, h2, h3, o, h', h4, h5⟩ := hh
  have h4 := hCC _ _ _ _ _ h4
  cases o with
  | inl v => exact am_One_k h5 (fun K' Q' h9 => ⟨h1, h2, h3, _, _, h4, h9⟩)
  | inr x =>
    unfold am_cont at h5
    simp only at h5
    split at h5
    · rename_i t ht
      exact am_One_k h5.2 (fun K' Q' h9 => ⟨h1, h2, h3, _, _, h4, by unfold am_cont; simp only; rw [ht]; exact ⟨h5.1, h9⟩⟩)
    · rename_i ht
      exact am_One_q h5.2 (fun K' Q' h9 => ⟨h1, h2, h3, _, _, h4, by unfold am_cont; simp only; rw [ht]; exact ⟨h5.1, h9⟩⟩)
set_option maxHeartbeats 4000000 in
theorem am_one_do (hCC : ∀ j as h o h', C j as h o h' → C2 j as h o h') {ins : Instr} {len pc c u : Nat} {al : List (Nat × Value)} {st : List Value} {h : am_H} (hh : am_do C G M K Q ins len pc al st h c u) : am_One (fun K' Q' => am_do C2 G M K' Q' ins len pc al st h c u) K Q := by
  cases ins with
  | iload_n i =>
    obtain ⟨h0, hh⟩ := hh
    obtain ⟨x, h1, h2⟩ := am_vi_s hh
    exact am_One_k h2 (fun K' Q' h9 => ⟨h0, by rw [h1]; exact h9⟩)
  | iload i =>
    obtain ⟨h0, hh⟩ := hh
    obtain ⟨x, h1, h2⟩ := am_vi_s hh
    exact am_One_k h2 (fun K' Q' h9 => ⟨h0, by rw [h1]; exact h9⟩)
  | lload_n i =>
    obtain ⟨h0, hh⟩ := hh
    obtain ⟨x, h1, h2⟩ := am_vl_s hh
    exact am_One_k h2 (fun K' Q' h9 => ⟨h0, by rw [h1]; exact h9⟩)
  | lload i =>
    obtain ⟨h0, hh⟩ := hh
    obtain ⟨x, h1, h2⟩ := am_vl_s hh
    exact am_One_k h2 (fun K' Q' h9 => ⟨h0, by rw [h1]; exact h9⟩)
  | aload_n i =>
    obtain ⟨h0, hh⟩ := hh
    obtain ⟨x, h1, h2⟩ := am_vr_s hh
    exact am_One_k h2 (fun K' Q' h9 => ⟨h0, by rw [h1]; exact h9⟩)
  | aload i =>
    obtain ⟨h0, hh⟩ := hh
    obtain ⟨x, h1, h2⟩ := am_vr_s hh
    exact am_One_k h2 (fun K' Q' h9 => ⟨h0, by rw [h1]; exact h9⟩)
  | istore_n i =>
    obtain ⟨h0, hi, hh⟩ := hh
    obtain ⟨x, r, rfl, h2⟩ := am_sti_s hh
    exact am_One_k h2 (fun K' Q' h9 => ⟨h0, hi, h9⟩)
  | istore i =>
    obtain ⟨h0, hi, hh⟩ := hh
    obtain ⟨x, r, rfl, h2⟩ := am_sti_s hh
    exact am_One_k h2 (fun K' Q' h9 => ⟨h0, hi, h9⟩)
  | astore_n i =>
    obtain ⟨h0, hi, hh⟩ := hh
    obtain ⟨x, r, rfl, h2⟩ := am_str_s hh
    exact am_One_k h2 (fun K' Q' h9 => ⟨h0, hi, h9⟩)
  | astore i =>
    obtain ⟨h0, hi, hh⟩ := hh
    obtain ⟨x, r, rfl, h2⟩ := am_str_s hh
    exact am_One_k h2 (fun K' Q' h9 => ⟨h0, hi, h9⟩)
  | iinc i n =>
    obtain ⟨h0, hi, hh⟩ := hh
    obtain ⟨x, h1, h2⟩ := am_vi_s hh
    exact am_One_k h2 (fun K' Q' h9 => ⟨h0, hi, by rw [h1]; exact h9⟩)
  | irem =>
    obtain ⟨h0, hh⟩ := hh
    split at hh
    · exact am_One_k hh.2 (fun K' Q' h9 => ⟨h0, hh.1, h9⟩)
    · exact hh.elim
  | ldc i =>
    obtain ⟨h0, hh⟩ := hh
    obtain ⟨x, h1, h2⟩ := am_vi_s hh
    exact am_One_k h2 (fun K' Q' h9 => ⟨h0, by rw [h1]; exact h9⟩)
  | ldc_w i =>
    obtain ⟨h0, hh⟩ := hh
    obtain ⟨x, h1, h2⟩ := am_vi_s hh
    exact am_One_k h2 (fun K' Q' h9 => ⟨h0, by rw [h1]; exact h9⟩)
  | ldc2_w i =>
    obtain ⟨h0, hh⟩ := hh
    obtain ⟨x, h1, h2⟩ := am_vl_s hh
    exact am_One_k h2 (fun K' Q' h9 => ⟨h0, by rw [h1]; exact h9⟩)
  | getfield i =>
    obtain ⟨h0, hh⟩ := hh
    obtain ⟨a, r, rfl, hh⟩ := am_str_s hh
    unfold am_get at hh
    split at hh
    · rename_i ci fi hpl
      obtain ⟨h1, h2, hh⟩ := hh
      by_cases h9 : am_ft G ci fi % 10 = 2
      · rw [if_pos h9] at hh
        obtain ⟨j, hj, hh⟩ := am_so_s hh
        exact am_One_k hh (fun K' Q' h8 => ⟨h0, by simp only [am_str]; unfold am_get; rw [hpl]; exact ⟨h1, h2, by rw [if_pos h9, hj]; exact h8⟩⟩)
      · rw [if_neg h9] at hh
        exact am_One_k hh (fun K' Q' h8 => ⟨h0, by simp only [am_str]; unfold am_get; rw [hpl]; exact ⟨h1, h2, by rw [if_neg h9]; exact h8⟩⟩)
    · exact hh.elim
  | putfield i =>
    obtain ⟨h0, hh⟩ := hh
    obtain ⟨v, a, r, rfl, hh⟩ := am_stv_s hh
    unfold am_put at hh
    split at hh
    · rename_i ci fi hpl
      obtain ⟨h1, h2, h3, hh⟩ := hh
      split at hh
      · exact am_One_k hh.2 (fun K' Q' h8 => ⟨h0, by simp only [am_stv]; unfold am_put; rw [hpl]; exact ⟨h1, h2, h3, hh.1, h8⟩⟩)
      · exact am_One_k hh.2 (fun K' Q' h8 => ⟨h0, by simp only [am_stv]; unfold am_put; rw [hpl]; exact ⟨h1, h2, h3, hh.1, h8⟩⟩)
      · exact hh.elim
    · exact hh.elim
  | iaload =>
    obtain ⟨h0, hh⟩ := hh
    obtain ⟨i, r, rfl, hh⟩ := am_sti_s hh
    obtain ⟨a, r, rfl, hh⟩ := am_str_s hh
    obtain ⟨q, hs, h1, h2, hh⟩ := am_so_s hh
    exact am_One_k hh (fun K' Q' h8 => ⟨h0, by simp only [am_sti, am_str, am_ald, hs]; exact ⟨h1, h2, h8⟩⟩)
  | baload =>
    obtain ⟨h0, hh⟩ := hh
    obtain ⟨i, r, rfl, hh⟩ := am_sti_s hh
    obtain ⟨a, r, rfl, hh⟩ := am_str_s hh
    obtain ⟨q, hs, h1, h2, hh⟩ := am_so_s hh
    exact am_One_k hh (fun K' Q' h8 => ⟨h0, by simp only [am_sti, am_str, am_ald, hs]; exact ⟨h1, h2, h8⟩⟩)
  | laload =>
    obtain ⟨h0, hh⟩ := hh
    obtain ⟨i, r, rfl, hh⟩ := am_sti_s hh
    obtain ⟨a, r, rfl, hh⟩ := am_str_s hh
    obtain ⟨q, hs, h1, h2, hh⟩ := am_so_s hh
    exact am_One_k hh (fun K' Q' h8 => ⟨h0, by simp only [am_sti, am_str, am_ald, hs]; exact ⟨h1, h2, h8⟩⟩)
  | aaload =>
    obtain ⟨h0, hh⟩ := hh
    obtain ⟨i, r, rfl, hh⟩ := am_sti_s hh
    obtain ⟨a, r, rfl, hh⟩ := am_str_s hh
    obtain ⟨q, hs, h1, h2, hh⟩ := am_so_s hh
    obtain ⟨j, hj, hh⟩ := am_so_s hh
    exact am_One_k hh (fun K' Q' h8 => ⟨h0, by simp only [am_sti, am_str, am_ald, hs]; exact ⟨h1, h2, by rw [hj]; exact h8⟩⟩)
  | iastore =>
    obtain ⟨h0, hh⟩ := hh
    cases st with
    | nil => exact hh.elim
    | cons v r =>
      obtain ⟨i, r, rfl, hh⟩ := am_sti_s hh
      obtain ⟨a, r, rfl, hh⟩ := am_str_s hh
      obtain ⟨q, hs, h1, hh⟩ := am_so_s hh
      cases v with
      | int x =>
        obtain ⟨h2, hh⟩ := hh
        exact am_One_k hh (fun K' Q' h8 => ⟨h0, by simp only [am_sti, am_str, am_ast, hs]; exact ⟨h1, h2, h8⟩⟩)
      | _ => exact hh.elim
  | bastore =>
    obtain ⟨h0, hh⟩ := hh
    cases st with
    | nil => exact hh.elim
    | cons v r =>
      obtain ⟨i, r, rfl, hh⟩ := am_sti_s hh
      obtain ⟨a, r, rfl, hh⟩ := am_str_s hh
      obtain ⟨q, hs, h1, hh⟩ := am_so_s hh
      cases v with
      | int x =>
        obtain ⟨h2, hh⟩ := hh
        exact am_One_k hh (fun K' Q' h8 => ⟨h0, by simp only [am_sti, am_str, am_ast, hs]; exact ⟨h1, h2, h8⟩⟩)
      | _ => exact hh.elim
  | lastore =>
    obtain ⟨h0, hh⟩ := hh
    cases st with
    | nil => exact hh.elim
    | cons v r =>
      obtain ⟨i, r, rfl, hh⟩ := am_sti_s hh
      obtain ⟨a, r, rfl, hh⟩ := am_str_s hh
      obtain ⟨q, hs, h1, hh⟩ := am_so_s hh
      cases v with
      | long x =>
        obtain ⟨h2, hh⟩ := hh
        exact am_One_k hh (fun K' Q' h8 => ⟨h0, by simp only [am_sti, am_str, am_ast, hs]; exact ⟨h1, h2, h8⟩⟩)
      | _ => exact hh.elim
  | aastore =>
    obtain ⟨h0, hh⟩ := hh
    cases st with
    | nil => exact hh.elim
    | cons v r =>
      obtain ⟨i, r, rfl, hh⟩ := am_sti_s hh
      obtain ⟨a, r, rfl, hh⟩ := am_str_s hh
      obtain ⟨q, hs, h1, hh⟩ := am_so_s hh
      cases v with
      | ref x =>
        obtain ⟨h2, h3, h4, hh⟩ := hh
        exact am_One_k hh (fun K' Q' h8 => ⟨h0, by simp only [am_sti, am_str, am_ast, hs]; exact ⟨h1, h2, h3, h4, h8⟩⟩)
      | _ => exact hh.elim
  | arraylength =>
    obtain ⟨h0, hh⟩ := hh
    obtain ⟨a, r, rfl, hh⟩ := am_str_s hh
    obtain ⟨q, hq, h1, hh⟩ := am_so_s hh
    exact am_One_k hh (fun K' Q' h8 => ⟨h0, by simp only [am_str]; rw [hq]; exact ⟨h1, h8⟩⟩)
  | new i =>
    obtain ⟨h0, hh⟩ := hh
    split at hh
    · rename_i ci z1 z2 hpl
      obtain ⟨h1, h2, h3, h4, hh⟩ := hh
      exact am_One_k hh (fun K' Q' h8 => ⟨h0, by rw [hpl]; exact ⟨h1, h2, h3, h4, h8⟩⟩)
    · rename_i x ic z hpl
      obtain ⟨h1, h2, h3, h4, h5, h6, h7, hh⟩ := hh
      exact am_One_q hh (fun K' Q' h8 => ⟨h0, by rw [hpl]; exact ⟨h1, h2, h3, h4, h5, h6, h7, h8⟩⟩)
    · exact hh.elim
  | newarray ty =>
    obtain ⟨h0, hh⟩ := hh
    obtain ⟨n, r, rfl, hh⟩ := am_sti_s hh
    cases ty with
    | int =>
      obtain ⟨h1, h2, h3, h4, h5, hh⟩ := hh
      exact am_One_k hh (fun K' Q' h8 => ⟨h0, h1, h2, h3, h4, h5, h8⟩)
    | boolean =>
      obtain ⟨h1, h2, h3, h4, h5, hh⟩ := hh
      exact am_One_k hh (fun K' Q' h8 => ⟨h0, h1, h2, h3, h4, h5, h8⟩)
    | long =>
      obtain ⟨h1, h2, h3, h4, h5, hh⟩ := hh
      exact am_One_k hh (fun K' Q' h8 => ⟨h0, h1, h2, h3, h4, h5, h8⟩)
    | _ => exact hh.elim
  | anewarray i =>
    obtain ⟨h0, hh⟩ := hh
    obtain ⟨n, r, rfl, hh⟩ := am_sti_s hh
    split at hh
    · rename_i z1 t z2 hpl
      obtain ⟨h6, h1, h2, h3, h4, h5, hh⟩ := hh
      exact am_One_k hh (fun K' Q' h8 => ⟨h0, by simp only [am_sti]; rw [hpl]; exact ⟨h6, h1, h2, h3, h4, h5, h8⟩⟩)
    · exact hh.elim
  | invokestatic i =>
    obtain ⟨h0, hh⟩ := hh
    split at hh
    · rename_i j z1 hpl
      obtain ⟨h1, hh⟩ := hh
      rcases am_one_inv hCC hh with ⟨a1, a2, a3, a4, a5, a6, a7, a8⟩ | ⟨a1, a2, a7, a8⟩
      · exact am_One_k a7 (fun K' Q' h8 => ⟨h0, by rw [hpl]; exact ⟨h1, a8 K' Q' h8⟩⟩)
      · exact am_One_q a7 (fun K' Q' h8 => ⟨h0, by rw [hpl]; exact ⟨h1, a8 K' Q' h8⟩⟩)
    · rename_i j z1 hpl
      obtain ⟨h1, hh⟩ := hh
      rcases am_one_inv hCC hh with ⟨a1, a2, a3, a4, a5, a6, a7, a8⟩ | ⟨a1, a2, a7, a8⟩
      · exact am_One_k a7 (fun K' Q' h8 => ⟨h0, by rw [hpl]; exact ⟨h1, a8 K' Q' h8⟩⟩)
      · exact am_One_q a7 (fun K' Q' h8 => ⟨h0, by rw [hpl]; exact ⟨h1, a8 K' Q' h8⟩⟩)
    · rename_i z1 z2 z3 hpl
      unfold am_cpy at hh
      split at hh
      · obtain ⟨n0, n1, g1, g2, g3, g4, g5, g6, g7, g8, hh⟩ := hh
        exact am_One_k hh (fun K' Q' h8 => ⟨h0, by rw [hpl]; exact ⟨n0, n1, g1, g2, g3, g4, g5, g6, g7, g8, h8⟩⟩)
      · exact hh.elim
    · rename_i z1 z2 z3 hpl
      obtain ⟨y, r, rfl, hh2⟩ := am_sti_s hh
      obtain ⟨x, r2, rfl, h1, hh3⟩ := am_sti_s hh2
      exact am_One_k hh3 (fun K' Q' h8 => ⟨h0, by rw [hpl]; exact ⟨h1, h8⟩⟩)
    · rename_i z1 z2 z3 hpl
      obtain ⟨y, r, rfl, hh2⟩ := am_sti_s hh
      obtain ⟨x, r2, rfl, h1, hh3⟩ := am_sti_s hh2
      exact am_One_k hh3 (fun K' Q' h8 => ⟨h0, by rw [hpl]; exact ⟨h1, h8⟩⟩)
    · exact hh.elim
  | invokevirtual i =>
    obtain ⟨h0, hh⟩ := hh
    split at hh
    · rename_i j z1 hpl
      obtain ⟨h1, hh⟩ := hh
      obtain ⟨bb, r, hdr, h2, hh⟩ := am_str_s hh
      rcases am_one_inv hCC hh with ⟨a1, a2, a3, a4, a5, a6, a7, a8⟩ | ⟨a1, a2, a7, a8⟩
      · exact am_One_k a7 (fun K' Q' h8 => ⟨h0, by rw [hpl]; exact ⟨h1, by rw [hdr]; exact ⟨h2, a8 K' Q' h8⟩⟩⟩)
      · exact am_One_q a7 (fun K' Q' h8 => ⟨h0, by rw [hpl]; exact ⟨h1, by rw [hdr]; exact ⟨h2, a8 K' Q' h8⟩⟩⟩)
    · rename_i j z1 hpl
      obtain ⟨h1, hh⟩ := hh
      obtain ⟨bb, r, hdr, h2, hh⟩ := am_str_s hh
      rcases am_one_inv hCC hh with ⟨a1, a2, a3, a4, a5, a6, a7, a8⟩ | ⟨a1, a2, a7, a8⟩
      · exact am_One_k a7 (fun K' Q' h8 => ⟨h0, by rw [hpl]; exact ⟨h1, by rw [hdr]; exact ⟨h2, a8 K' Q' h8⟩⟩⟩)
      · exact am_One_q a7 (fun K' Q' h8 => ⟨h0, by rw [hpl]; exact ⟨h1, by rw [hdr]; exact ⟨h2, a8 K' Q' h8⟩⟩⟩)
    · exact hh.elim
  | invokespecial i =>
    obtain ⟨h0, hh⟩ := hh
    split at hh
    · rename_i j z1 hpl
      obtain ⟨h1, hh⟩ := hh
      obtain ⟨bb, r, hdr, hh⟩ := am_str_s hh
      rcases am_one_inv hCC hh with ⟨a1, a2, a3, a4, a5, a6, a7, a8⟩ | ⟨a1, a2, a7, a8⟩
      · exact am_One_k a7 (fun K' Q' h8 => ⟨h0, by rw [hpl]; exact ⟨h1, by rw [hdr]; exact a8 K' Q' h8⟩⟩)
      · exact am_One_q a7 (fun K' Q' h8 => ⟨h0, by rw [hpl]; exact ⟨h1, by rw [hdr]; exact a8 K' Q' h8⟩⟩)
    · rename_i z1 z2 z3 hpl
      obtain ⟨a, r, rfl, h1, hh⟩ := am_str_s hh
      exact am_One_k hh (fun K' Q' h8 => ⟨h0, by rw [hpl]; exact ⟨h1, h8⟩⟩)
    · exact hh.elim
  | ireturn =>
    obtain ⟨h0, hh⟩ := hh
    split at hh
    · split at hh
      · rename_i hrt
        exact am_One_q hh (fun K' Q' h8 => ⟨h0, by simp only; rw [hrt]; exact h8⟩)
      · rename_i hrt
        exact am_One_q hh.2 (fun K' Q' h8 => ⟨h0, by simp only; rw [hrt]; exact ⟨hh.1, h8⟩⟩)
      · exact hh.elim
    · exact hh.elim
  | areturn =>
    obtain ⟨h0, hh⟩ := hh
    split at hh
    · split at hh
      · rename_i nm hrt
        exact am_One_q hh (fun K' Q' h8 => ⟨h0, by simp only; rw [hrt]; exact h8⟩)
      · exact hh.elim
    · exact hh.elim
  | return_ =>
    obtain ⟨h0, hh⟩ := hh
    split at hh
    · exact am_One_q hh.2 (fun K' Q' h8 => ⟨h0, hh.1, h8⟩)
    · exact hh.elim
  | _ =>
    rw [am_do_d rfl] at hh
    rcases am_one_dflt (Q := Q) hh with ⟨a1, a2, a3, a4, a5, a6, a7, a8⟩ | ⟨a1, a2, a7, a8⟩
    · exact am_One_k a7 (fun K' Q' h8 => by rw [am_do_d rfl]; exact a8 K' Q' h8)
    · exact am_One_q a7 (fun K' Q' h8 => by rw [am_do_d rfl]; exact a8 K' Q' h8)
theorem am_one_step (hCC : ∀ j as h o h', C j as h o h' → C2 j as h o h') {pc c u : Nat} {al : List (Nat × Value)} {st : List Value} {h : am_H} (hh : am_step C G M K Q pc al st h c u) : am_One (fun K' Q' => am_step C2 G M K' Q' pc al st h c u) K Q := by
  unfold am_step at hh
  split at hh
  · rename_i q hq
    rcases am_one_do hCC hh with ⟨a1, a2, a3, a4, a5, a6, a7, a8⟩ | ⟨a1, a2, a7, a8⟩
    · exact am_One_k a7 (fun K' Q' h8 => by unfold am_step; rw [hq]; exact a8 K' Q' h8)
    · exact am_One_q a7 (fun K' Q' h8 => by unfold am_step; rw [hq]; exact a8 K' Q' h8)
  · exact hh.elim
/-- a step taken -/
theorem am_T_step {pc c u : Nat} {al : List (Nat × Value)} {st : List Value} {h : am_H} (hh : am_step C G M (am_T C G M Q) Q pc al st h c u) : am_T C G M Q pc al st h c u := by
  intro K hK
  refine hK _ _ _ _ _ _ ?_
  rcases am_one_step (C2 := C) (fun _ _ _ _ _ q => q) hh with ⟨a1, a2, a3, a4, a5, a6, a7, a8⟩ | ⟨a1, a2, a7, a8⟩
  · exact a8 K Q (a7 K hK)
  · exact a8 K Q a7
/-- another end, deeper calls -/
theorem am_T_mono (hCC : ∀ j as h o h', C j as h o h' → C2 j as h o h') {Q2 : am_O → am_H → Prop} (hQ : ∀ o h, Q o h → Q2 o h) {pc c u : Nat} {al : List (Nat × Value)} {st : List Value} {h : am_H} (hh : am_T C G M Q pc al st h c u) : am_T C2 G M Q2 pc al st h c u := by
  refine hh (am_T C2 G M Q2) (fun pc al st h c u hs => am_T_step ?_)
  rcases am_one_step hCC hs with ⟨a1, a2, a3, a4, a5, a6, a7, a8⟩ | ⟨a1, a2, a7, a8⟩
  · exact a8 _ _ a7
  · exact a8 _ _ (hQ _ _ a7)
/-- an end that is known by Q is one end -/
theorem am_T_ex {pc c u : Nat} {al : List (Nat × Value)} {st : List Value} {h : am_H} (hh : am_T C G M Q pc al st h c u) : ∃ o h', Q o h' ∧ am_T C G M (fun o1 h1 => o1 = o ∧ h1 = h') pc al st h c u := by
  refine hh (fun pc al st h c u => ∃ o h', Q o h' ∧ am_T C G M (fun o1 h1 => o1 = o ∧ h1 = h') pc al st h c u) (fun pc al st h c u hs => ?_)
  rcases am_one_step (C2 := C) (fun _ _ _ _ _ q => q) hs with ⟨a1, a2, a3, a4, a5, a6, ⟨o, h', g1, g2⟩, a8⟩ | ⟨o, h', a7, a8⟩
  · exact ⟨o, h', g1, am_T_step (a8 _ _ g2)⟩
  · exact ⟨o, h', a7, am_T_step (a8 _ _ ⟨rfl, rfl⟩)⟩
end AMO
theorem am_C_up (G : am_G) : ∀ (d j : Nat) (as : List Value) (h : am_H) (o : am_O) (h' : am_H), am_C G d j as h o h' → am_C G (d + 1) j as h o h' := by
  intro d
  induction d with
  | zero => exact fun _ _ _ _ _ q => q.elim
  | succ d ih =>
    intro j as h o h' q
    exact ⟨q.1, fun x hx => Nat.lt_succ_of_lt (q.2.1 x hx), am_T_mono ih (fun _ _ z => z) q.2.2⟩
/-- method j at as in h ends with Q, by calls at most d deep -/
def am_m (G : am_G) (d j : Nat) (as : List Value) (h : am_H) (Q : am_O → am_H → Prop) : Prop := ∃ o h', am_C G d j as h o h' ∧ Q o h'
theorem am_m_of {G : am_G} {d j : Nat} {as : List Value} {h : am_H} {Q : am_O → am_H → Prop} (h8 : am_w8 as ≤ am_mL (am_mt G j)) (hv : 5 < d + 1 ∨ ∀ o h', Q o h' → ∃ v, o = .inl v) (hh : am_T (am_C G d) G (am_mt G j) Q 0 (lv_args 0 as) [] h 0 0) : am_m G (d + 1) j as h Q := by
  obtain ⟨o, h', g1, g2⟩ := am_T_ex hh
  refine ⟨o, h', ⟨h8, fun x hx => ?_, g2⟩, g1⟩
  rcases hv with hv | hv
  · exact hv
  · obtain ⟨v, hv⟩ := hv o h' g1
    rw [hv] at hx
    cases hx
theorem am_m_up {G : am_G} {d d2 j : Nat} {as : List Value} {h : am_H} {Q Q2 : am_O → am_H → Prop} (hd : d ≤ d2) (hQ : ∀ o h', Q o h' → Q2 o h') (hh : am_m G d j as h Q) : am_m G d2 j as h Q2 := by
  obtain ⟨o, h', g1, g2⟩ := hh
  obtain ⟨k, rfl⟩ : ∃ k, d2 = d + k := ⟨d2 - d, by omega⟩
  clear hd
  refine ⟨o, h', ?_, hQ _ _ g2⟩
  clear g2 hQ
  induction k with
  | zero => exact g1
  | succ k ih => exact am_C_up G _ _ _ _ _ _ ih
