/-! Part 58: the order in which the locals are listed does not count -/
theorem lk_filter {p : Nat × Value → Bool} {al : List (Nat × Value)} {j : Nat} {w : Value} (h : am_lk al j = some w) (hp : p (j, w) = true) : am_lk (al.filter p) j = some w := by
  induction al with
  | nil => cases h
  | cons q r ih =>
    unfold am_lk at h
    by_cases e : q.1 = j
    · rw [if_pos e] at h
      cases h
      have : p q = true := by rw [← hp, ← e]
      rw [List.filter_cons, if_pos this]
      unfold am_lk
      rw [if_pos e]
    · rw [if_neg e] at h
      rw [List.filter_cons]
      split
      · unfold am_lk
        rw [if_neg e]
        exact ih h
      · exact ih h
theorem lk_mem {al : List (Nat × Value)} {j : Nat} {w : Value} (h : am_lk al j = some w) : (j, w) ∈ al := by
  induction al with
  | nil => cases h
  | cons q r ih =>
    unfold am_lk at h
    by_cases e : q.1 = j
    · rw [if_pos e] at h
      cases h
      rw [← e]
      exact List.mem_cons_self
    · rw [if_neg e] at h
      exact List.mem_cons_of_mem _ (ih h)
theorem mem_lk {al : List (Nat × Value)} (hn : (al.map (fun q => q.1)).Nodup) {j : Nat} {w : Value} (h : (j, w) ∈ al) : am_lk al j = some w := by
  induction al with
  | nil => cases h
  | cons q r ih =>
    rw [List.map_cons, List.nodup_cons] at hn
    unfold am_lk
    rcases List.mem_cons.mp h with e | e
    · rw [← e, if_pos rfl]
    · have : ¬ q.1 = j := fun z => hn.1 (by rw [z]; exact List.mem_map.mpr ⟨(j, w), e, rfl⟩)
      rw [if_neg this]
      exact ih hn.2 e
/-- al2 has all that al1 has -/
def am_E (al1 al2 : List (Nat × Value)) : Prop := (al1.map (fun q => q.1)).Nodup ∧ ∀ i v, am_lk al1 i = some v → am_lk al2 i = some v
theorem am_E_s1 {al1 al2 : List (Nat × Value)} (h : am_E al1 al2) (i : Nat) (v : Value) : am_E (am_s1 al1 i v) (am_s1 al2 i v) := by
  have hsub : (((al1.filter (fun q => !(q.1 == i) && !(q.1 + 1 == i && q.2.category == 2))).map (fun q => q.1))).Nodup := List.Nodup.sublist (List.Sublist.map _ List.filter_sublist) h.1
  constructor
  · unfold am_s1
    rw [List.map_cons, List.nodup_cons]
    refine ⟨fun z => ?_, hsub⟩
    obtain ⟨q, hq, e⟩ := List.mem_map.mp z
    have := (List.mem_filter.mp hq).2
    simp [e] at this
  · intro j w hw
    unfold am_s1 at hw ⊢
    unfold am_lk at hw ⊢
    by_cases e : i = j
    · rw [if_pos e] at hw ⊢
      exact hw
    · rw [if_neg e] at hw ⊢
      have hm := List.mem_filter.mp (lk_mem hw)
      exact lk_filter (h.2 j w (mem_lk h.1 hm.1)) hm.2
section PERM
variable {C : Nat → List Value → am_H → am_O → am_H → Prop} {G : am_G} {M : am_M} {Q : am_O → am_H → Prop}
theorem am_T_E {pc c u : Nat} {al al2 : List (Nat × Value)} {st : List Value} {h : am_H} (hE : am_E al al2) (hh : am_T C G M Q pc al st h c u) : am_T C G M Q pc al2 st h c u := by
  revert al2
  refine hh (fun pc al st h c u => ∀ {al2}, am_E al al2 → am_T C G M Q pc al2 st h c u) ?_
  intro pc al st h c u hs al2 hE
  refine am_T_step ?_
  unfold am_step at hs ⊢
  split at hs
  · rename_i q hd
    obtain ⟨ins, len⟩ := q
    dsimp only at hs ⊢
    have key : am_do C G M (fun pc _ st h c u => ∀ {al2}, am_E al al2 → am_T C G M Q pc al2 st h c u) Q ins len pc al2 st h c u → am_do C G M (fun pc _ st h c u => am_T C G M Q pc al2 st h c u) Q ins len pc al2 st h c u := by
      intro h1
      have h2 : am_step C G M (fun pc _ st h c u => ∀ {al2}, am_E al al2 → am_T C G M Q pc al2 st h c u) Q pc al2 st h c u := by
        unfold am_step
        rw [hd]
        exact h1
      have h3 : am_step C G M (fun pc _ st h c u => am_T C G M Q pc al2 st h c u) Q pc al2 st h c u := by
        rcases am_one_step (C2 := C) (fun _ _ _ _ _ q => q) h2 with ⟨a1, a2, a3, a4, a5, a6, a7, a8⟩ | ⟨a1, a2, a7, a8⟩
        · exact a8 _ _ (a7 hE)
        · exact a8 _ _ a7
      unfold am_step at h3
      rw [hd] at h3
      exact h3
    cases ins
    case iload_n i => obtain ⟨e, hs⟩ := hs; obtain ⟨x, e1, e2⟩ := am_vi_s hs; exact ⟨e, by rw [hE.2 _ _ e1]; exact e2 hE⟩
    case iload i => obtain ⟨e, hs⟩ := hs; obtain ⟨x, e1, e2⟩ := am_vi_s hs; exact ⟨e, by rw [hE.2 _ _ e1]; exact e2 hE⟩
    case lload_n i => obtain ⟨e, hs⟩ := hs; obtain ⟨x, e1, e2⟩ := am_vl_s hs; exact ⟨e, by rw [hE.2 _ _ e1]; exact e2 hE⟩
    case lload i => obtain ⟨e, hs⟩ := hs; obtain ⟨x, e1, e2⟩ := am_vl_s hs; exact ⟨e, by rw [hE.2 _ _ e1]; exact e2 hE⟩
    case aload_n i => obtain ⟨e, hs⟩ := hs; obtain ⟨x, e1, e2⟩ := am_vr_s hs; exact ⟨e, by rw [hE.2 _ _ e1]; exact e2 hE⟩
    case aload i => obtain ⟨e, hs⟩ := hs; obtain ⟨x, e1, e2⟩ := am_vr_s hs; exact ⟨e, by rw [hE.2 _ _ e1]; exact e2 hE⟩
    case istore_n i => obtain ⟨e, hm, hs⟩ := hs; obtain ⟨x, r, rfl, e2⟩ := am_sti_s hs; exact ⟨e, hm, e2 (am_E_s1 hE _ _)⟩
    case istore i => obtain ⟨e, hm, hs⟩ := hs; obtain ⟨x, r, rfl, e2⟩ := am_sti_s hs; exact ⟨e, hm, e2 (am_E_s1 hE _ _)⟩
    case astore_n i => obtain ⟨e, hm, hs⟩ := hs; obtain ⟨x, r, rfl, e2⟩ := am_str_s hs; exact ⟨e, hm, e2 (am_E_s1 hE _ _)⟩
    case astore i => obtain ⟨e, hm, hs⟩ := hs; obtain ⟨x, r, rfl, e2⟩ := am_str_s hs; exact ⟨e, hm, e2 (am_E_s1 hE _ _)⟩
    case iinc i n => obtain ⟨e, hm, hs⟩ := hs; obtain ⟨x, e1, e2⟩ := am_vi_s hs; exact ⟨e, hm, by rw [hE.2 _ _ e1]; exact e2 (am_E_s1 hE _ _)⟩
    all_goals exact key hs
  · exact hs.elim
end PERM
def am_sub (al : List (Nat × Value)) (al2 : List (Nat × Value)) : Prop := ∀ q ∈ al, am_lk al2 q.1 = some q.2
theorem sub_n {al2 : List (Nat × Value)} : am_sub [] al2 := fun _ h => nomatch h
theorem sub_c {al al2 : List (Nat × Value)} {i : Nat} {v : Value} (h : am_lk al2 i = some v) (t : am_sub al al2) : am_sub ((i, v) :: al) al2 := fun q hq => by
  rcases List.mem_cons.mp hq with e | e
  · rw [e]; exact h
  · exact t q e
theorem b_nf {d : Nat} {S : am_S} {R : Nat → Option Nat} {M : am_M} {Qh : am_O → am_H → Prop} {pc : Nat} {al al2 : List (Nat × Value)} {ks : List Nat} {st : List Value} {W : bw_W} {J : bw_J} {g : Nat} {L : bw_L} {c u : Nat} (hs : am_sub al al2) (hk : al.map (fun q => q.1) = ks) (hn : ks.Nodup) (k : bH d S R M Qh pc al st W J g L c u) : bH d S R M Qh pc al2 st W J g L c u := fun I hI => am_T_E ⟨by rw [hk]; exact hn, fun i v h => hs (i, v) (lk_mem h)⟩ (k I hI)
