/-! Part 98: behind the constructors both sides say the same -/
def JA (xs : Nat → Int32) (hh : Nat) (m : Nat → Bool) : bw_J := alJ 0 (chK 1 (am_u2 (am_u1 (fun _ _ => 0) 0 xs) 2 0 (Int32.ofNat (5 + hh))) m 37)
def JB (xs : Nat → Int32) (hh : Nat) (m : Nat → Bool) : bw_J := moK 129 (am_u2 (am_u2 (am_u2 (am_u2 (am_u2 (JA xs hh m) 130 5 (-1)) 130 37 (Int32.ofNat 8)) 130 44 (Int32.ofNat 8)) 130 47 (Int32.ofNat 1)) 130 1 (Int32.ofNat (5 + hh))) m 37
def W0 : bw_W := fun a => if a = 82 then [Int32.ofNat 30] else []
theorem W0_n {a : Nat} (h : ¬ a = 82) : W0 a = [] := if_neg h
section Z
variable {xs : Nat → Int32} {hh : Nat} {m : Nat → Bool}
theorem JA_o {c : Nat} (n0 : ¬ c = 0) (n1 : ¬ c = 1) (n2 : ¬ c = 2) (n3 : ¬ c = 3) (n4 : ¬ c = 4) (n7 : ¬ c = 7) (n37 : ¬ c = 37) (n67 : ¬ c = 67) (n82 : ¬ c = 82) (n83 : ¬ c = 83) (n86 : ¬ c = 86) : JA xs hh m c = fun _ => 0 := by
  unfold JA alJ
  rw [u2_a _ _ n1, u2_a _ _ n86, u2_a _ _ n67, u2_a _ _ n67, u2_a _ _ n82, u2_a _ _ n83, u2_a _ _ n37, u2_a _ _ n7, chK_o n2 n3 n4, u2_a _ _ n2, u1_ne _ _ n0]
theorem JB_o {c : Nat} (n0 : ¬ c = 0) (n1 : ¬ c = 1) (n2 : ¬ c = 2) (n3 : ¬ c = 3) (n4 : ¬ c = 4) (n7 : ¬ c = 7) (n37 : ¬ c = 37) (n67 : ¬ c = 67) (n82 : ¬ c = 82) (n83 : ¬ c = 83) (n86 : ¬ c = 86) (n130 : ¬ c = 130) (n131 : ¬ c = 131) : JB xs hh m c = fun _ => 0 := by
  unfold JB
  rw [moK_o n130 n131, u2_a _ _ n130, u2_a _ _ n130, u2_a _ _ n130, u2_a _ _ n130, u2_a _ _ n130, JA_o n0 n1 n2 n3 n4 n7 n37 n67 n82 n83 n86]
theorem JB_131 : JB xs hh m 131 = fun i => if i < 37 then bI (m i) else 0 := moK_2 (b := 129)
theorem JB_lo {c : Nat} (h : c < 130) : JB xs hh m c = JA xs hh m c := by
  unfold JB
  rw [moK_o (by omega) (by omega), u2_a _ _ (by omega), u2_a _ _ (by omega), u2_a _ _ (by omega), u2_a _ _ (by omega), u2_a _ _ (by omega)]
theorem JB_4 : JB xs hh m 4 = fun i => if i < 37 then bI (m i) else 0 := by
  rw [JB_lo (by decide)]
  unfold JA alJ
  rw [u2_a _ _ (by decide), u2_a _ _ (by decide), u2_a _ _ (by decide), u2_a _ _ (by decide), u2_a _ _ (by decide), u2_a _ _ (by decide), u2_a _ _ (by decide), u2_a _ _ (by decide)]
  exact chK_3 (b := 1)
theorem JB_3 : JB xs hh m 3 = uO m 37 := by
  rw [JB_lo (by decide)]
  unfold JA alJ
  rw [u2_a _ _ (by decide), u2_a _ _ (by decide), u2_a _ _ (by decide), u2_a _ _ (by decide), u2_a _ _ (by decide), u2_a _ _ (by decide), u2_a _ _ (by decide), u2_a _ _ (by decide)]
  exact chK_2 (b := 1)
theorem z_chs (hp : hh ≤ 11) (hm : 1 ≤ cM m 37) : rChs (JB xs hh m) (JB xs hh m) := by
  refine ⟨0, 5 + hh, cM m 37, rfl, rfl, by decide, rfl, rfl, by omega, rfl, rfl, hm, cM_le m 37, fun k hk => ?_, fun i hi => ?_⟩
  · rw [JB_4, JB_131]
  · obtain ⟨c, q1, q2, q3, q4⟩ := uO_ok m 37 i hi
    refine ⟨c, q1, ?_, ?_, ?_⟩
    · rw [JB_3]; exact q2
    · rw [JB_131]
      dsimp only
      rw [if_pos q1, bI_0, q3]
      exact fun z => nomatch z
    · rw [JB_131, cnt_cM (m := m) c (fun i hi => if_pos (by omega))]
      exact q4
theorem z_out {o r dv : Nat} (ho : JB xs hh m o = fun _ => 0) (hr : ∀ i, i < 8 → ¬ r + 2 * i = 82) : rOut o r dv W0 (JB xs hh m) (JB xs hh m) 0 0 0 := by
  unfold rOut
  rw [ho]
  refine ⟨rfl, rfl, by decide, rfl, rfl, by decide, rfl, rfl, Nat.zero_le _, fun _ => rfl, fun i hi => ?_⟩
  rw [W0_n (hr i hi)]
  exact ⟨rfl, by decide, byl_nil, fun k hk => absurd hk (Nat.not_lt_zero _)⟩
theorem z_srv : rSrv W0 (JB xs hh m) (JB xs hh m) 0 0 8 := by
  refine ⟨rfl, rfl, by decide, fun i hi => ?_, fun i hi => ?_, fun i hi _ => W0_n (by omega), rfl, rfl, by decide, fun k hk => absurd hk (Nat.not_lt_zero _), rfl, rfl, by decide, by decide, rfl, Or.inl rfl⟩
  · rw [JB_o (c := 88 + 3 * i) (by omega) (by omega) (by omega) (by omega) (by omega) (by omega) (by omega) (by omega) (by omega) (by omega) (by omega) (by omega) (by omega)]
    exact ⟨rfl, rfl⟩
  · unfold rVal
    rw [W0_n (by omega)]
    exact ⟨rfl, by decide, byl_nil, fun k hk => absurd hk (Nat.not_lt_zero _)⟩
theorem z_cli : rCli W0 (JB xs hh m) (JB xs hh m) 0 8 := by
  refine ⟨⟨⟨rfl, rfl, rfl, fun q hq => ?_⟩, rfl, rfl, by decide, by decide, rfl, rfl, by decide, fun k hk => absurd hk (Nat.not_lt_zero _), rfl, 0, rfl, by decide⟩, Or.inl ⟨rfl, rfl, rfl⟩⟩
  rw [W0_n (by omega)]
  exact ⟨rfl, by decide, fun k hk => absurd hk (Nat.not_lt_zero _)⟩
theorem z_rel (hp : hh ≤ 11) (hm : 1 ≤ cM m 37) : rel 0 W0 (JB xs hh m) (JB xs hh m) := by
  refine ⟨z_chs hp hm, ⟨⟨0, 0, 0, z_out rfl (fun i hi => by omega)⟩, Or.inl ⟨rfl, rfl⟩, ⟨0, 0, rfl, rfl, by decide, rfl, rfl, by decide⟩, ⟨rfl, by decide, byl_nil, fun k hk => absurd hk (Nat.not_lt_zero _)⟩, Or.inl ⟨rfl, rfl⟩, ⟨0, 0, 0, z_out rfl (fun i hi => by omega)⟩, Or.inl ⟨rfl, rfl⟩, ⟨0, 0, rfl, rfl, by decide, rfl, rfl, by decide⟩, ⟨rfl, by decide, byl_nil, fun k hk => absurd hk (Nat.not_lt_zero _)⟩, Or.inl ⟨rfl, rfl⟩, ⟨0, 0, 8, z_srv⟩, 0, 8, z_cli, Nat.le_refl _⟩, 0, 0, 0, 0, rfl, rfl, Nat.le_refl _, rfl, rfl, rfl, by decide, rfl, rfl, rfl, rfl, by decide, by decide, fun _ => ⟨by decide, by decide⟩⟩
theorem R_none : R0 0 = none ∧ R0 1 = none ∧ R0 2 = none ∧ R0 3 = none ∧ R0 4 = none ∧ R0 7 = none ∧ R0 37 = none ∧ R0 67 = none ∧ R0 83 = none ∧ R0 86 = none ∧ R0 130 = none ∧ R0 131 = none := by decide +kernel
theorem z_hp : bw_hp R0 W0 (JB xs hh m) (JB xs hh m) := by
  refine ⟨fun a N h => ?_, fun _ _ => rfl⟩
  by_cases e : a = 82
  · subst e
    rw [R_82] at h
    obtain rfl : 1 = N := by simpa using h
    refine ⟨rfl, by decide, fun k hk => ?_⟩
    obtain rfl : k = 0 := by
      have : k < 1 := hk
      omega
    rfl
  · obtain ⟨q0, q1, q2, q3, q4, q7, q37, q67, q83, q86, q130, q131⟩ := R_none
    have f : ∀ k, R0 k = none → ¬ a = k := fun k hk z => by
      subst z
      rw [hk] at h
      exact nomatch h
    rw [W0_n e, JB_o (f _ q0) (f _ q1) (f _ q2) (f _ q3) (f _ q4) (f _ q7) (f _ q37) (f _ q67) e (f _ q83) (f _ q86) (f _ q130) (f _ q131)]
    exact ⟨rfl, Nat.zero_le _, fun k hk => absurd hk (Nat.not_lt_zero _)⟩
end Z
theorem mA_1 (U A : Nat) : 1 ≤ cM (mA U A) 37 := by
  unfold mA
  by_cases h : cM (mk (Int32.ofNat U) (Int32.ofNat A)) 37 < 2
  · rw [if_pos h, cM_all]; decide
  · rw [if_neg h]; omega
