/-! Part 91 (written by gen40.py): AttributeLink: event -/
section E2
variable {n0 : Nat} {W : bw_W} {J : bw_J} {g : Nat} {L : bw_L}
variable {W1 : bw_W} {J1 : bw_J}
theorem al_event0 {d : Nat} (hd : 6 ≤ d) {f : Int32} {up bk : Int64} (hb : ¬ (¬ f < 0 ∧ f ≤ Int32.ofNat 3)) : bm d (S0 n0) R0 60 [.ref 1, .int f, .long up, .long bk] W J g L (bX 0 W J (g + 1) L) := by
  obtain ⟨e, rfl⟩ : ∃ e, d = e + 1 := ⟨d - 1, by omega⟩
  refine bm_of (Nat.le_of_ble_eq_true rfl) (Or.inl (show 5 < e + 1 by omega)) ?_
  show bT e (S0 n0) R0 mt_Al_event _ 0 [(0, .ref 1), (1, .int f), (2, .long up), (4, .long bk)] [] W J g L 0 0
  have hSR := SR0 n0
  refine b_iln (pc2 := 1) d_Al_event_0 rfl rfl ?_
  refine b_ifd (pc2 := 9) d_Al_event_1 rfl rfl rfl rfl rfl (fun h1 => ?_) (fun h1 => ?_)
  · refine b_thr d_Al_event_9 q_10_67 rfl (by decide) (by decide) (Nat.le_of_ble_eq_true rfl) d_Al_event_12 d_Al_event_13 d_Al_event_16 ?_
    exact ⟨rfl, rfl, rfl, rfl, rfl⟩
  · refine b_iln (pc2 := 5) d_Al_event_4 rfl rfl ?_
    refine b_ic (pc2 := 6) (x := Int32.ofNat 3) d_Al_event_5 rfl rfl ?_
    refine b_ifd (pc2 := 17) d_Al_event_6 rfl rfl rfl rfl rfl (fun h6 => ?_) (fun h6 => ?_)
    · exact absurd ⟨h1, h6⟩ hb
    · refine b_thr d_Al_event_9 q_10_67 rfl (by decide) (by decide) (Nat.le_of_ble_eq_true rfl) d_Al_event_12 d_Al_event_13 d_Al_event_16 ?_
      exact ⟨rfl, rfl, rfl, rfl, rfl⟩
theorem al_event1 {d : Nat} (hd : 6 ≤ d) {f : Int32} {up bk : Int64} (hok : (¬ f < 0 ∧ f ≤ Int32.ofNat 3)) (hd0 : ¬ J 1 8 = 0) : bm d (S0 n0) R0 60 [.ref 1, .int f, .long up, .long bk] W J g L (bX 1 W J (g + 1) L) := by
  obtain ⟨e, rfl⟩ : ∃ e, d = e + 1 := ⟨d - 1, by omega⟩
  refine bm_of (Nat.le_of_ble_eq_true rfl) (Or.inl (show 5 < e + 1 by omega)) ?_
  show bT e (S0 n0) R0 mt_Al_event _ 0 [(0, .ref 1), (1, .int f), (2, .long up), (4, .long bk)] [] W J g L 0 0
  have hSR := SR0 n0
  refine b_iln (pc2 := 1) d_Al_event_0 rfl rfl ?_
  refine b_ifd (pc2 := 9) d_Al_event_1 rfl rfl rfl rfl rfl (fun h1 => ?_) (fun h1 => ?_)
  · exact absurd h1 (hok.1)
  refine b_iln (pc2 := 5) d_Al_event_4 rfl rfl ?_
  refine b_ic (pc2 := 6) (x := Int32.ofNat 3) d_Al_event_5 rfl rfl ?_
  refine b_ifd (pc2 := 17) d_Al_event_6 rfl rfl rfl rfl rfl (fun h6 => ?_) (fun h6 => ?_)
  rotate_left
  · exact absurd (hok.2) h6
  refine b_aln (pc2 := 18) d_Al_event_17 rfl rfl ?_
  refine b_gi (pc2 := 21) d_Al_event_18 q_10_56 (sh_1 n0) (by decide) (by decide) (rc_1) rfl ?_
  refine b_ifd (pc2 := 32) d_Al_event_21 rfl rfl rfl rfl rfl (fun h21 => ?_) (fun h21 => ?_)
  · exact absurd h21 (hd0)
  refine b_thr d_Al_event_24 q_10_74 rfl (by decide) (by decide) (Nat.le_of_ble_eq_true rfl) d_Al_event_27 d_Al_event_28 d_Al_event_31 ?_
  exact ⟨rfl, rfl, rfl, rfl, rfl⟩
theorem al_event2 {d : Nat} (hd : 7 ≤ d) {f : Int32} {up bk : Int64} (hok : (¬ f < 0 ∧ f ≤ Int32.ofNat 3)) (hd0 : J 1 8 = 0) {v : Int32} (hX : ∀ e, 6 ≤ e → bm e (S0 n0) R0 61 [.ref 1, .int f, .long up, .long bk] W J g L (bR (some (.int v)) W1 J1 g L)) : bm d (S0 n0) R0 60 [.ref 1, .int f, .long up, .long bk] W J g L (bR (some (.int v)) W1 J1 g L) := by
  obtain ⟨e, rfl⟩ : ∃ e, d = e + 1 := ⟨d - 1, by omega⟩
  refine bm_of (Nat.le_of_ble_eq_true rfl) (Or.inr bR_ret) ?_
  show bT e (S0 n0) R0 mt_Al_event _ 0 [(0, .ref 1), (1, .int f), (2, .long up), (4, .long bk)] [] W J g L 0 0
  have hSR := SR0 n0
  refine b_iln (pc2 := 1) d_Al_event_0 rfl rfl ?_
  refine b_ifd (pc2 := 9) d_Al_event_1 rfl rfl rfl rfl rfl (fun h1 => ?_) (fun h1 => ?_)
  · exact absurd h1 (hok.1)
  refine b_iln (pc2 := 5) d_Al_event_4 rfl rfl ?_
  refine b_ic (pc2 := 6) (x := Int32.ofNat 3) d_Al_event_5 rfl rfl ?_
  refine b_ifd (pc2 := 17) d_Al_event_6 rfl rfl rfl rfl rfl (fun h6 => ?_) (fun h6 => ?_)
  rotate_left
  · exact absurd (hok.2) h6
  refine b_aln (pc2 := 18) d_Al_event_17 rfl rfl ?_
  refine b_gi (pc2 := 21) d_Al_event_18 q_10_56 (sh_1 n0) (by decide) (by decide) (rc_1) rfl ?_
  refine b_ifd (pc2 := 32) d_Al_event_21 rfl rfl rfl rfl rfl (fun h21 => ?_) (fun h21 => ?_)
  rotate_left
  · exact absurd (hd0) h21
  refine b_aln (pc2 := 33) d_Al_event_32 rfl rfl ?_
  refine b_iln (pc2 := 34) d_Al_event_33 rfl rfl ?_
  refine b_lln (pc2 := 35) d_Al_event_34 rfl rfl ?_
  refine b_ll (pc2 := 37) d_Al_event_35 rfl rfl ?_
  refine b_cv1 (pc2 := 40) (c2 := 0) (u2 := 0) (hX e (by omega)) d_Al_event_37 q_10_127 (Nat.le_of_ble_eq_true rfl) rfl rfl (sh_1 n0) (Nat.le_of_ble_eq_true rfl) rfl rfl (by decide) (by decide) rfl ?_
  refine b_ir d_Al_event_40 rfl ?_
  exact ⟨rfl, rfl, rfl, rfl, rfl⟩
end E2
