/-! Part 92 (written by gen41.py): the law's own small methods -/
section LW
variable {n0 : Nat} {W : bw_W} {J : bw_J} {g : Nat} {L : bw_L}
variable {W1 : bw_W} {J1 : bw_J} {g1 : Nat}
theorem la_attribute {d : Nat} (hd : 8 ≤ d) {v0 : Int32} {v1 : Int32} {v2 : Int64} {v3 : Int32} {v : Int32} (hX : ∀ e, 7 ≤ e → bm e (S0 n0) R0 26 [.ref 1, .int v0, .int v1, .long v2, .int v3] W J g L (bR (some (.int v)) W1 J1 g L)) : bm d (S0 n0) R0 25 [.ref 1, .int v0, .int v1, .long v2, .int v3, .ref 166] W J g L (bR (some (.int (Int32.ofNat 0))) W1 J1 g (am_u2 L 166 0 v.toInt64)) := by
  obtain ⟨e, rfl⟩ : ∃ e, d = e + 1 := ⟨d - 1, by omega⟩
  refine bm_of (Nat.le_of_ble_eq_true rfl) (Or.inr bR_ret) ?_
  show bT e (S0 n0) R0 mt_La_attribute _ 0 [(0, .ref 1), (1, .int v0), (2, .int v1), (3, .long v2), (5, .int v3), (6, .ref 166)] [] W J g L 0 0
  have hSR := SR0 n0
  refine b_al (pc2 := 2) d_La_attribute_0 rfl rfl ?_
  refine b_ic (pc2 := 3) (x := Int32.ofNat 0) d_La_attribute_2 rfl rfl ?_
  refine b_aln (pc2 := 4) d_La_attribute_3 rfl rfl ?_
  refine b_iln (pc2 := 5) d_La_attribute_4 rfl rfl ?_
  refine b_iln (pc2 := 6) d_La_attribute_5 rfl rfl ?_
  refine b_lln (pc2 := 7) d_La_attribute_6 rfl rfl ?_
  refine b_il (pc2 := 9) d_La_attribute_7 rfl rfl ?_
  refine b_cv1 (pc2 := 12) (c2 := 1) (u2 := 6) (hX e (by omega)) d_La_attribute_9 q_12_7 (Nat.le_of_ble_eq_true rfl) rfl rfl (sh_1 n0) (Nat.le_of_ble_eq_true rfl) rfl rfl (by decide) (by decide) rfl ?_
  refine b_pure (pc2 := 13) d_La_attribute_12 rfl rfl rfl ?_
  refine b_lst (pc2 := 14) d_La_attribute_13 (sh_166 n0) (i_in (i := 0) (by decide) (by decide)) (rfl) rfl ?_
  refine b_go (pc2 := 25) d_La_attribute_14 rfl ?_
  refine b_ic (pc2 := 26) (x := Int32.ofNat 0) d_La_attribute_25 rfl rfl ?_
  refine b_ir d_La_attribute_26 rfl ?_
  exact ⟨rfl, rfl, rfl, rfl, rfl⟩
theorem la_attribute_x1 {d : Nat} (hd : 8 ≤ d) {v0 : Int32} {v1 : Int32} {v2 : Int64} {v3 : Int32} (hX : ∀ e, 7 ≤ e → bm e (S0 n0) R0 26 [.ref 1, .int v0, .int v1, .long v2, .int v3] W J g L (bX 0 W1 J1 g1 L)) : bm d (S0 n0) R0 25 [.ref 1, .int v0, .int v1, .long v2, .int v3, .ref 166] W J g L (bR (some (.int (Int32.ofNat 1))) W1 J1 g1 L) := by
  obtain ⟨e, rfl⟩ : ∃ e, d = e + 1 := ⟨d - 1, by omega⟩
  refine bm_of (Nat.le_of_ble_eq_true rfl) (Or.inr bR_ret) ?_
  show bT e (S0 n0) R0 mt_La_attribute _ 0 [(0, .ref 1), (1, .int v0), (2, .int v1), (3, .long v2), (5, .int v3), (6, .ref 166)] [] W J g L 0 0
  have hSR := SR0 n0
  refine b_al (pc2 := 2) d_La_attribute_0 rfl rfl ?_
  refine b_ic (pc2 := 3) (x := Int32.ofNat 0) d_La_attribute_2 rfl rfl ?_
  refine b_aln (pc2 := 4) d_La_attribute_3 rfl rfl ?_
  refine b_iln (pc2 := 5) d_La_attribute_4 rfl rfl ?_
  refine b_iln (pc2 := 6) d_La_attribute_5 rfl rfl ?_
  refine b_lln (pc2 := 7) d_La_attribute_6 rfl rfl ?_
  refine b_il (pc2 := 9) d_La_attribute_7 rfl rfl ?_
  refine b_cvH (c2 := 1) (u2 := 6) (t := 17) (hX e (by omega)) d_La_attribute_9 q_12_7 (Nat.le_of_ble_eq_true rfl) rfl rfl (sh_1 n0) (Nat.le_of_ble_eq_true rfl) rfl rfl (by decide) (by decide) rfl (by decide) ?_
  refine b_as (pc2 := 19) (al2 := [(7, _), (0, _), (1, _), (2, _), (3, _), (5, _), (6, _)]) d_La_attribute_17 (by decide) rfl rfl ?_
  refine b_ic (pc2 := 20) (x := Int32.ofNat 1) d_La_attribute_19 rfl rfl ?_
  refine b_ir d_La_attribute_20 rfl ?_
  exact ⟨rfl, rfl, rfl, rfl, rfl⟩
theorem la_attribute_x2 {d : Nat} (hd : 8 ≤ d) {v0 : Int32} {v1 : Int32} {v2 : Int64} {v3 : Int32} (hX : ∀ e, 7 ≤ e → bm e (S0 n0) R0 26 [.ref 1, .int v0, .int v1, .long v2, .int v3] W J g L (bX 1 W1 J1 g1 L)) : bm d (S0 n0) R0 25 [.ref 1, .int v0, .int v1, .long v2, .int v3, .ref 166] W J g L (bR (some (.int (Int32.ofNat 2))) W1 J1 g1 L) := by
  obtain ⟨e, rfl⟩ : ∃ e, d = e + 1 := ⟨d - 1, by omega⟩
  refine bm_of (Nat.le_of_ble_eq_true rfl) (Or.inr bR_ret) ?_
  show bT e (S0 n0) R0 mt_La_attribute _ 0 [(0, .ref 1), (1, .int v0), (2, .int v1), (3, .long v2), (5, .int v3), (6, .ref 166)] [] W J g L 0 0
  have hSR := SR0 n0
  refine b_al (pc2 := 2) d_La_attribute_0 rfl rfl ?_
  refine b_ic (pc2 := 3) (x := Int32.ofNat 0) d_La_attribute_2 rfl rfl ?_
  refine b_aln (pc2 := 4) d_La_attribute_3 rfl rfl ?_
  refine b_iln (pc2 := 5) d_La_attribute_4 rfl rfl ?_
  refine b_iln (pc2 := 6) d_La_attribute_5 rfl rfl ?_
  refine b_lln (pc2 := 7) d_La_attribute_6 rfl rfl ?_
  refine b_il (pc2 := 9) d_La_attribute_7 rfl rfl ?_
  refine b_cvH (c2 := 1) (u2 := 6) (t := 21) (hX e (by omega)) d_La_attribute_9 q_12_7 (Nat.le_of_ble_eq_true rfl) rfl rfl (sh_1 n0) (Nat.le_of_ble_eq_true rfl) rfl rfl (by decide) (by decide) rfl (by decide) ?_
  refine b_as (pc2 := 23) (al2 := [(7, _), (0, _), (1, _), (2, _), (3, _), (5, _), (6, _)]) d_La_attribute_21 (by decide) rfl rfl ?_
  refine b_ic (pc2 := 24) (x := Int32.ofNat 2) d_La_attribute_23 rfl rfl ?_
  refine b_ir d_La_attribute_24 rfl ?_
  exact ⟨rfl, rfl, rfl, rfl, rfl⟩
theorem la_put {d : Nat} (hd : 8 ≤ d) {v0 : Int32} {v1 : Int32} {v2 : Int64} {v3 : Int32} {v : Int32} (hX : ∀ e, 7 ≤ e → bm e (S0 n0) R0 34 [.ref 1, .int v0, .int v1, .long v2, .int v3] W J g L (bR (some (.int v)) W1 J1 g L)) : bm d (S0 n0) R0 33 [.ref 1, .int v0, .int v1, .long v2, .int v3, .ref 166] W J g L (bR (some (.int (Int32.ofNat 0))) W1 J1 g (am_u2 L 166 0 v.toInt64)) := by
  obtain ⟨e, rfl⟩ : ∃ e, d = e + 1 := ⟨d - 1, by omega⟩
  refine bm_of (Nat.le_of_ble_eq_true rfl) (Or.inr bR_ret) ?_
  show bT e (S0 n0) R0 mt_La_put _ 0 [(0, .ref 1), (1, .int v0), (2, .int v1), (3, .long v2), (5, .int v3), (6, .ref 166)] [] W J g L 0 0
  have hSR := SR0 n0
  refine b_al (pc2 := 2) d_La_put_0 rfl rfl ?_
  refine b_ic (pc2 := 3) (x := Int32.ofNat 0) d_La_put_2 rfl rfl ?_
  refine b_aln (pc2 := 4) d_La_put_3 rfl rfl ?_
  refine b_iln (pc2 := 5) d_La_put_4 rfl rfl ?_
  refine b_iln (pc2 := 6) d_La_put_5 rfl rfl ?_
  refine b_lln (pc2 := 7) d_La_put_6 rfl rfl ?_
  refine b_il (pc2 := 9) d_La_put_7 rfl rfl ?_
  refine b_cv1 (pc2 := 12) (c2 := 1) (u2 := 6) (hX e (by omega)) d_La_put_9 q_12_17 (Nat.le_of_ble_eq_true rfl) rfl rfl (sh_1 n0) (Nat.le_of_ble_eq_true rfl) rfl rfl (by decide) (by decide) rfl ?_
  refine b_pure (pc2 := 13) d_La_put_12 rfl rfl rfl ?_
  refine b_lst (pc2 := 14) d_La_put_13 (sh_166 n0) (i_in (i := 0) (by decide) (by decide)) (rfl) rfl ?_
  refine b_go (pc2 := 25) d_La_put_14 rfl ?_
  refine b_ic (pc2 := 26) (x := Int32.ofNat 0) d_La_put_25 rfl rfl ?_
  refine b_ir d_La_put_26 rfl ?_
  exact ⟨rfl, rfl, rfl, rfl, rfl⟩
theorem la_put_x1 {d : Nat} (hd : 8 ≤ d) {v0 : Int32} {v1 : Int32} {v2 : Int64} {v3 : Int32} (hX : ∀ e, 7 ≤ e → bm e (S0 n0) R0 34 [.ref 1, .int v0, .int v1, .long v2, .int v3] W J g L (bX 0 W1 J1 g1 L)) : bm d (S0 n0) R0 33 [.ref 1, .int v0, .int v1, .long v2, .int v3, .ref 166] W J g L (bR (some (.int (Int32.ofNat 1))) W1 J1 g1 L) := by
  obtain ⟨e, rfl⟩ : ∃ e, d = e + 1 := ⟨d - 1, by omega⟩
  refine bm_of (Nat.le_of_ble_eq_true rfl) (Or.inr bR_ret) ?_
  show bT e (S0 n0) R0 mt_La_put _ 0 [(0, .ref 1), (1, .int v0), (2, .int v1), (3, .long v2), (5, .int v3), (6, .ref 166)] [] W J g L 0 0
  have hSR := SR0 n0
  refine b_al (pc2 := 2) d_La_put_0 rfl rfl ?_
  refine b_ic (pc2 := 3) (x := Int32.ofNat 0) d_La_put_2 rfl rfl ?_
  refine b_aln (pc2 := 4) d_La_put_3 rfl rfl ?_
  refine b_iln (pc2 := 5) d_La_put_4 rfl rfl ?_
  refine b_iln (pc2 := 6) d_La_put_5 rfl rfl ?_
  refine b_lln (pc2 := 7) d_La_put_6 rfl rfl ?_
  refine b_il (pc2 := 9) d_La_put_7 rfl rfl ?_
  refine b_cvH (c2 := 1) (u2 := 6) (t := 17) (hX e (by omega)) d_La_put_9 q_12_17 (Nat.le_of_ble_eq_true rfl) rfl rfl (sh_1 n0) (Nat.le_of_ble_eq_true rfl) rfl rfl (by decide) (by decide) rfl (by decide) ?_
  refine b_as (pc2 := 19) (al2 := [(7, _), (0, _), (1, _), (2, _), (3, _), (5, _), (6, _)]) d_La_put_17 (by decide) rfl rfl ?_
  refine b_ic (pc2 := 20) (x := Int32.ofNat 1) d_La_put_19 rfl rfl ?_
  refine b_ir d_La_put_20 rfl ?_
  exact ⟨rfl, rfl, rfl, rfl, rfl⟩
theorem la_put_x2 {d : Nat} (hd : 8 ≤ d) {v0 : Int32} {v1 : Int32} {v2 : Int64} {v3 : Int32} (hX : ∀ e, 7 ≤ e → bm e (S0 n0) R0 34 [.ref 1, .int v0, .int v1, .long v2, .int v3] W J g L (bX 1 W1 J1 g1 L)) : bm d (S0 n0) R0 33 [.ref 1, .int v0, .int v1, .long v2, .int v3, .ref 166] W J g L (bR (some (.int (Int32.ofNat 2))) W1 J1 g1 L) := by
  obtain ⟨e, rfl⟩ : ∃ e, d = e + 1 := ⟨d - 1, by omega⟩
  refine bm_of (Nat.le_of_ble_eq_true rfl) (Or.inr bR_ret) ?_
  show bT e (S0 n0) R0 mt_La_put _ 0 [(0, .ref 1), (1, .int v0), (2, .int v1), (3, .long v2), (5, .int v3), (6, .ref 166)] [] W J g L 0 0
  have hSR := SR0 n0
  refine b_al (pc2 := 2) d_La_put_0 rfl rfl ?_
  refine b_ic (pc2 := 3) (x := Int32.ofNat 0) d_La_put_2 rfl rfl ?_
  refine b_aln (pc2 := 4) d_La_put_3 rfl rfl ?_
  refine b_iln (pc2 := 5) d_La_put_4 rfl rfl ?_
  refine b_iln (pc2 := 6) d_La_put_5 rfl rfl ?_
  refine b_lln (pc2 := 7) d_La_put_6 rfl rfl ?_
  refine b_il (pc2 := 9) d_La_put_7 rfl rfl ?_
  refine b_cvH (c2 := 1) (u2 := 6) (t := 21) (hX e (by omega)) d_La_put_9 q_12_17 (Nat.le_of_ble_eq_true rfl) rfl rfl (sh_1 n0) (Nat.le_of_ble_eq_true rfl) rfl rfl (by decide) (by decide) rfl (by decide) ?_
  refine b_as (pc2 := 23) (al2 := [(7, _), (0, _), (1, _), (2, _), (3, _), (5, _), (6, _)]) d_La_put_21 (by decide) rfl rfl ?_
  refine b_ic (pc2 := 24) (x := Int32.ofNat 2) d_La_put_23 rfl rfl ?_
  refine b_ir d_La_put_24 rfl ?_
  exact ⟨rfl, rfl, rfl, rfl, rfl⟩
theorem la_tell {d : Nat} (hd : 8 ≤ d) {v0 : Int32} {v1 : Int32} (hX : ∀ e, 7 ≤ e → bm e (S0 n0) R0 40 [.ref 1, .int v0, .int v1] W J g L (bR none W1 J1 g L)) : bm d (S0 n0) R0 39 [.ref 1, .int v0, .int v1] W J g L (bR (some (.int (Int32.ofNat 0))) W1 J1 g L) := by
  obtain ⟨e, rfl⟩ : ∃ e, d = e + 1 := ⟨d - 1, by omega⟩
  refine bm_of (Nat.le_of_ble_eq_true rfl) (Or.inr bR_ret) ?_
  show bT e (S0 n0) R0 mt_La_tell _ 0 [(0, .ref 1), (1, .int v0), (2, .int v1)] [] W J g L 0 0
  have hSR := SR0 n0
  refine b_aln (pc2 := 1) d_La_tell_0 rfl rfl ?_
  refine b_iln (pc2 := 2) d_La_tell_1 rfl rfl ?_
  refine b_iln (pc2 := 3) d_La_tell_2 rfl rfl ?_
  refine b_cv0 (pc2 := 6) (c2 := 1) (u2 := 6) (hX e (by omega)) d_La_tell_3 q_12_21 (Nat.le_of_ble_eq_true rfl) rfl rfl (sh_1 n0) (Nat.le_of_ble_eq_true rfl) rfl rfl (by decide) (by decide) rfl ?_
  refine b_go (pc2 := 15) d_La_tell_6 rfl ?_
  refine b_ic (pc2 := 16) (x := Int32.ofNat 0) d_La_tell_15 rfl rfl ?_
  refine b_ir d_La_tell_16 rfl ?_
  exact ⟨rfl, rfl, rfl, rfl, rfl⟩
theorem la_tell_x1 {d : Nat} (hd : 8 ≤ d) {v0 : Int32} {v1 : Int32} (hX : ∀ e, 7 ≤ e → bm e (S0 n0) R0 40 [.ref 1, .int v0, .int v1] W J g L (bX 0 W1 J1 g1 L)) : bm d (S0 n0) R0 39 [.ref 1, .int v0, .int v1] W J g L (bR (some (.int (Int32.ofNat 1))) W1 J1 g1 L) := by
  obtain ⟨e, rfl⟩ : ∃ e, d = e + 1 := ⟨d - 1, by omega⟩
  refine bm_of (Nat.le_of_ble_eq_true rfl) (Or.inr bR_ret) ?_
  show bT e (S0 n0) R0 mt_La_tell _ 0 [(0, .ref 1), (1, .int v0), (2, .int v1)] [] W J g L 0 0
  have hSR := SR0 n0
  refine b_aln (pc2 := 1) d_La_tell_0 rfl rfl ?_
  refine b_iln (pc2 := 2) d_La_tell_1 rfl rfl ?_
  refine b_iln (pc2 := 3) d_La_tell_2 rfl rfl ?_
  refine b_cvH (c2 := 1) (u2 := 6) (t := 9) (hX e (by omega)) d_La_tell_3 q_12_21 (Nat.le_of_ble_eq_true rfl) rfl rfl (sh_1 n0) (Nat.le_of_ble_eq_true rfl) rfl rfl (by decide) (by decide) rfl (by decide) ?_
  refine b_asn (pc2 := 10) (al2 := [(3, _), (0, _), (1, _), (2, _)]) d_La_tell_9 (by decide) rfl rfl ?_
  refine b_ic (pc2 := 11) (x := Int32.ofNat 1) d_La_tell_10 rfl rfl ?_
  refine b_ir d_La_tell_11 rfl ?_
  exact ⟨rfl, rfl, rfl, rfl, rfl⟩
theorem la_tell_x2 {d : Nat} (hd : 8 ≤ d) {v0 : Int32} {v1 : Int32} (hX : ∀ e, 7 ≤ e → bm e (S0 n0) R0 40 [.ref 1, .int v0, .int v1] W J g L (bX 1 W1 J1 g1 L)) : bm d (S0 n0) R0 39 [.ref 1, .int v0, .int v1] W J g L (bR (some (.int (Int32.ofNat 2))) W1 J1 g1 L) := by
  obtain ⟨e, rfl⟩ : ∃ e, d = e + 1 := ⟨d - 1, by omega⟩
  refine bm_of (Nat.le_of_ble_eq_true rfl) (Or.inr bR_ret) ?_
  show bT e (S0 n0) R0 mt_La_tell _ 0 [(0, .ref 1), (1, .int v0), (2, .int v1)] [] W J g L 0 0
  have hSR := SR0 n0
  refine b_aln (pc2 := 1) d_La_tell_0 rfl rfl ?_
  refine b_iln (pc2 := 2) d_La_tell_1 rfl rfl ?_
  refine b_iln (pc2 := 3) d_La_tell_2 rfl rfl ?_
  refine b_cvH (c2 := 1) (u2 := 6) (t := 12) (hX e (by omega)) d_La_tell_3 q_12_21 (Nat.le_of_ble_eq_true rfl) rfl rfl (sh_1 n0) (Nat.le_of_ble_eq_true rfl) rfl rfl (by decide) (by decide) rfl (by decide) ?_
  refine b_asn (pc2 := 13) (al2 := [(3, _), (0, _), (1, _), (2, _)]) d_La_tell_12 (by decide) rfl rfl ?_
  refine b_ic (pc2 := 14) (x := Int32.ofNat 2) d_La_tell_13 rfl rfl ?_
  refine b_ir d_La_tell_14 rfl ?_
  exact ⟨rfl, rfl, rfl, rfl, rfl⟩
theorem la_begin {d : Nat} (hd : 8 ≤ d) {v0 : Int32} {v1 : Int32} (hX : ∀ e, 7 ≤ e → bm e (S0 n0) R0 46 [.ref 1, .int v0, .int v1] W J g L (bR none W1 J1 g L)) : bm d (S0 n0) R0 45 [.ref 1, .int v0, .int v1] W J g L (bR (some (.int (Int32.ofNat 0))) W1 J1 g L) := by
  obtain ⟨e, rfl⟩ : ∃ e, d = e + 1 := ⟨d - 1, by omega⟩
  refine bm_of (Nat.le_of_ble_eq_true rfl) (Or.inr bR_ret) ?_
  show bT e (S0 n0) R0 mt_La_begin _ 0 [(0, .ref 1), (1, .int v0), (2, .int v1)] [] W J g L 0 0
  have hSR := SR0 n0
  refine b_aln (pc2 := 1) d_La_begin_0 rfl rfl ?_
  refine b_iln (pc2 := 2) d_La_begin_1 rfl rfl ?_
  refine b_iln (pc2 := 3) d_La_begin_2 rfl rfl ?_
  refine b_cv0 (pc2 := 6) (c2 := 1) (u2 := 6) (hX e (by omega)) d_La_begin_3 q_12_25 (Nat.le_of_ble_eq_true rfl) rfl rfl (sh_1 n0) (Nat.le_of_ble_eq_true rfl) rfl rfl (by decide) (by decide) rfl ?_
  refine b_go (pc2 := 15) d_La_begin_6 rfl ?_
  refine b_ic (pc2 := 16) (x := Int32.ofNat 0) d_La_begin_15 rfl rfl ?_
  refine b_ir d_La_begin_16 rfl ?_
  exact ⟨rfl, rfl, rfl, rfl, rfl⟩
theorem la_begin_x1 {d : Nat} (hd : 8 ≤ d) {v0 : Int32} {v1 : Int32} (hX : ∀ e, 7 ≤ e → bm e (S0 n0) R0 46 [.ref 1, .int v0, .int v1] W J g L (bX 0 W1 J1 g1 L)) : bm d (S0 n0) R0 45 [.ref 1, .int v0, .int v1] W J g L (bR (some (.int (Int32.ofNat 1))) W1 J1 g1 L) := by
  obtain ⟨e, rfl⟩ : ∃ e, d = e + 1 := ⟨d - 1, by omega⟩
  refine bm_of (Nat.le_of_ble_eq_true rfl) (Or.inr bR_ret) ?_
  show bT e (S0 n0) R0 mt_La_begin _ 0 [(0, .ref 1), (1, .int v0), (2, .int v1)] [] W J g L 0 0
  have hSR := SR0 n0
  refine b_aln (pc2 := 1) d_La_begin_0 rfl rfl ?_
  refine b_iln (pc2 := 2) d_La_begin_1 rfl rfl ?_
  refine b_iln (pc2 := 3) d_La_begin_2 rfl rfl ?_
  refine b_cvH (c2 := 1) (u2 := 6) (t := 9) (hX e (by omega)) d_La_begin_3 q_12_25 (Nat.le_of_ble_eq_true rfl) rfl rfl (sh_1 n0) (Nat.le_of_ble_eq_true rfl) rfl rfl (by decide) (by decide) rfl (by decide) ?_
  refine b_asn (pc2 := 10) (al2 := [(3, _), (0, _), (1, _), (2, _)]) d_La_begin_9 (by decide) rfl rfl ?_
  refine b_ic (pc2 := 11) (x := Int32.ofNat 1) d_La_begin_10 rfl rfl ?_
  refine b_ir d_La_begin_11 rfl ?_
  exact ⟨rfl, rfl, rfl, rfl, rfl⟩
theorem la_begin_x2 {d : Nat} (hd : 8 ≤ d) {v0 : Int32} {v1 : Int32} (hX : ∀ e, 7 ≤ e → bm e (S0 n0) R0 46 [.ref 1, .int v0, .int v1] W J g L (bX 1 W1 J1 g1 L)) : bm d (S0 n0) R0 45 [.ref 1, .int v0, .int v1] W J g L (bR (some (.int (Int32.ofNat 2))) W1 J1 g1 L) := by
  obtain ⟨e, rfl⟩ : ∃ e, d = e + 1 := ⟨d - 1, by omega⟩
  refine bm_of (Nat.le_of_ble_eq_true rfl) (Or.inr bR_ret) ?_
  show bT e (S0 n0) R0 mt_La_begin _ 0 [(0, .ref 1), (1, .int v0), (2, .int v1)] [] W J g L 0 0
  have hSR := SR0 n0
  refine b_aln (pc2 := 1) d_La_begin_0 rfl rfl ?_
  refine b_iln (pc2 := 2) d_La_begin_1 rfl rfl ?_
  refine b_iln (pc2 := 3) d_La_begin_2 rfl rfl ?_
  refine b_cvH (c2 := 1) (u2 := 6) (t := 12) (hX e (by omega)) d_La_begin_3 q_12_25 (Nat.le_of_ble_eq_true rfl) rfl rfl (sh_1 n0) (Nat.le_of_ble_eq_true rfl) rfl rfl (by decide) (by decide) rfl (by decide) ?_
  refine b_asn (pc2 := 13) (al2 := [(3, _), (0, _), (1, _), (2, _)]) d_La_begin_12 (by decide) rfl rfl ?_
  refine b_ic (pc2 := 14) (x := Int32.ofNat 2) d_La_begin_13 rfl rfl ?_
  refine b_ir d_La_begin_14 rfl ?_
  exact ⟨rfl, rfl, rfl, rfl, rfl⟩
theorem la_write {d : Nat} (hd : 8 ≤ d) {v0 : Int32} {v1 : Int64} {v2 : Int32} {v3 : Int32} (hX : ∀ e, 7 ≤ e → bm e (S0 n0) R0 56 [.ref 1, .int v0, .long v1, .int v2, .int v3] W J g L (bR none W1 J1 g L)) : bm d (S0 n0) R0 55 [.ref 1, .int v0, .long v1, .int v2, .int v3] W J g L (bR (some (.int (Int32.ofNat 0))) W1 J1 g L) := by
  obtain ⟨e, rfl⟩ : ∃ e, d = e + 1 := ⟨d - 1, by omega⟩
  refine bm_of (Nat.le_of_ble_eq_true rfl) (Or.inr bR_ret) ?_
  show bT e (S0 n0) R0 mt_La_write _ 0 [(0, .ref 1), (1, .int v0), (2, .long v1), (4, .int v2), (5, .int v3)] [] W J g L 0 0
  have hSR := SR0 n0
  refine b_aln (pc2 := 1) d_La_write_0 rfl rfl ?_
  refine b_iln (pc2 := 2) d_La_write_1 rfl rfl ?_
  refine b_lln (pc2 := 3) d_La_write_2 rfl rfl ?_
  refine b_il (pc2 := 5) d_La_write_3 rfl rfl ?_
  refine b_il (pc2 := 7) d_La_write_5 rfl rfl ?_
  refine b_cv0 (pc2 := 10) (c2 := 1) (u2 := 6) (hX e (by omega)) d_La_write_7 q_12_29 (Nat.le_of_ble_eq_true rfl) rfl rfl (sh_1 n0) (Nat.le_of_ble_eq_true rfl) rfl rfl (by decide) (by decide) rfl ?_
  refine b_go (pc2 := 21) d_La_write_10 rfl ?_
  refine b_ic (pc2 := 22) (x := Int32.ofNat 0) d_La_write_21 rfl rfl ?_
  refine b_ir d_La_write_22 rfl ?_
  exact ⟨rfl, rfl, rfl, rfl, rfl⟩
theorem la_write_x1 {d : Nat} (hd : 8 ≤ d) {v0 : Int32} {v1 : Int64} {v2 : Int32} {v3 : Int32} (hX : ∀ e, 7 ≤ e → bm e (S0 n0) R0 56 [.ref 1, .int v0, .long v1, .int v2, .int v3] W J g L (bX 0 W1 J1 g1 L)) : bm d (S0 n0) R0 55 [.ref 1, .int v0, .long v1, .int v2, .int v3] W J g L (bR (some (.int (Int32.ofNat 1))) W1 J1 g1 L) := by
  obtain ⟨e, rfl⟩ : ∃ e, d = e + 1 := ⟨d - 1, by omega⟩
  refine bm_of (Nat.le_of_ble_eq_true rfl) (Or.inr bR_ret) ?_
  show bT e (S0 n0) R0 mt_La_write _ 0 [(0, .ref 1), (1, .int v0), (2, .long v1), (4, .int v2), (5, .int v3)] [] W J g L 0 0
  have hSR := SR0 n0
  refine b_aln (pc2 := 1) d_La_write_0 rfl rfl ?_
  refine b_iln (pc2 := 2) d_La_write_1 rfl rfl ?_
  refine b_lln (pc2 := 3) d_La_write_2 rfl rfl ?_
  refine b_il (pc2 := 5) d_La_write_3 rfl rfl ?_
  refine b_il (pc2 := 7) d_La_write_5 rfl rfl ?_
  refine b_cvH (c2 := 1) (u2 := 6) (t := 13) (hX e (by omega)) d_La_write_7 q_12_29 (Nat.le_of_ble_eq_true rfl) rfl rfl (sh_1 n0) (Nat.le_of_ble_eq_true rfl) rfl rfl (by decide) (by decide) rfl (by decide) ?_
  refine b_as (pc2 := 15) (al2 := [(6, _), (0, _), (1, _), (2, _), (4, _), (5, _)]) d_La_write_13 (by decide) rfl rfl ?_
  refine b_ic (pc2 := 16) (x := Int32.ofNat 1) d_La_write_15 rfl rfl ?_
  refine b_ir d_La_write_16 rfl ?_
  exact ⟨rfl, rfl, rfl, rfl, rfl⟩
theorem la_write_x2 {d : Nat} (hd : 8 ≤ d) {v0 : Int32} {v1 : Int64} {v2 : Int32} {v3 : Int32} (hX : ∀ e, 7 ≤ e → bm e (S0 n0) R0 56 [.ref 1, .int v0, .long v1, .int v2, .int v3] W J g L (bX 1 W1 J1 g1 L)) : bm d (S0 n0) R0 55 [.ref 1, .int v0, .long v1, .int v2, .int v3] W J g L (bR (some (.int (Int32.ofNat 2))) W1 J1 g1 L) := by
  obtain ⟨e, rfl⟩ : ∃ e, d = e + 1 := ⟨d - 1, by omega⟩
  refine bm_of (Nat.le_of_ble_eq_true rfl) (Or.inr bR_ret) ?_
  show bT e (S0 n0) R0 mt_La_write _ 0 [(0, .ref 1), (1, .int v0), (2, .long v1), (4, .int v2), (5, .int v3)] [] W J g L 0 0
  have hSR := SR0 n0
  refine b_aln (pc2 := 1) d_La_write_0 rfl rfl ?_
  refine b_iln (pc2 := 2) d_La_write_1 rfl rfl ?_
  refine b_lln (pc2 := 3) d_La_write_2 rfl rfl ?_
  refine b_il (pc2 := 5) d_La_write_3 rfl rfl ?_
  refine b_il (pc2 := 7) d_La_write_5 rfl rfl ?_
  refine b_cvH (c2 := 1) (u2 := 6) (t := 17) (hX e (by omega)) d_La_write_7 q_12_29 (Nat.le_of_ble_eq_true rfl) rfl rfl (sh_1 n0) (Nat.le_of_ble_eq_true rfl) rfl rfl (by decide) (by decide) rfl (by decide) ?_
  refine b_as (pc2 := 19) (al2 := [(6, _), (0, _), (1, _), (2, _), (4, _), (5, _)]) d_La_write_17 (by decide) rfl rfl ?_
  refine b_ic (pc2 := 20) (x := Int32.ofNat 2) d_La_write_19 rfl rfl ?_
  refine b_ir d_La_write_20 rfl ?_
  exact ⟨rfl, rfl, rfl, rfl, rfl⟩
theorem la_raw {d : Nat} (hd : 8 ≤ d) {v0 : Int64} {v1 : Int32} (hX : ∀ e, 7 ≤ e → bm e (S0 n0) R0 58 [.ref 1, .long v0, .int v1] W J g L (bR none W1 J1 g L)) : bm d (S0 n0) R0 57 [.ref 1, .long v0, .int v1] W J g L (bR (some (.int (Int32.ofNat 0))) W1 J1 g L) := by
  obtain ⟨e, rfl⟩ : ∃ e, d = e + 1 := ⟨d - 1, by omega⟩
  refine bm_of (Nat.le_of_ble_eq_true rfl) (Or.inr bR_ret) ?_
  show bT e (S0 n0) R0 mt_La_raw _ 0 [(0, .ref 1), (1, .long v0), (3, .int v1)] [] W J g L 0 0
  have hSR := SR0 n0
  refine b_aln (pc2 := 1) d_La_raw_0 rfl rfl ?_
  refine b_lln (pc2 := 2) d_La_raw_1 rfl rfl ?_
  refine b_iln (pc2 := 3) d_La_raw_2 rfl rfl ?_
  refine b_cv0 (pc2 := 6) (c2 := 1) (u2 := 6) (hX e (by omega)) d_La_raw_3 q_12_33 (Nat.le_of_ble_eq_true rfl) rfl rfl (sh_1 n0) (Nat.le_of_ble_eq_true rfl) rfl rfl (by decide) (by decide) rfl ?_
  refine b_go (pc2 := 17) d_La_raw_6 rfl ?_
  refine b_ic (pc2 := 18) (x := Int32.ofNat 0) d_La_raw_17 rfl rfl ?_
  refine b_ir d_La_raw_18 rfl ?_
  exact ⟨rfl, rfl, rfl, rfl, rfl⟩
theorem la_raw_x1 {d : Nat} (hd : 8 ≤ d) {v0 : Int64} {v1 : Int32} (hX : ∀ e, 7 ≤ e → bm e (S0 n0) R0 58 [.ref 1, .long v0, .int v1] W J g L (bX 0 W1 J1 g1 L)) : bm d (S0 n0) R0 57 [.ref 1, .long v0, .int v1] W J g L (bR (some (.int (Int32.ofNat 1))) W1 J1 g1 L) := by
  obtain ⟨e, rfl⟩ : ∃ e, d = e + 1 := ⟨d - 1, by omega⟩
  refine bm_of (Nat.le_of_ble_eq_true rfl) (Or.inr bR_ret) ?_
  show bT e (S0 n0) R0 mt_La_raw _ 0 [(0, .ref 1), (1, .long v0), (3, .int v1)] [] W J g L 0 0
  have hSR := SR0 n0
  refine b_aln (pc2 := 1) d_La_raw_0 rfl rfl ?_
  refine b_lln (pc2 := 2) d_La_raw_1 rfl rfl ?_
  refine b_iln (pc2 := 3) d_La_raw_2 rfl rfl ?_
  refine b_cvH (c2 := 1) (u2 := 6) (t := 9) (hX e (by omega)) d_La_raw_3 q_12_33 (Nat.le_of_ble_eq_true rfl) rfl rfl (sh_1 n0) (Nat.le_of_ble_eq_true rfl) rfl rfl (by decide) (by decide) rfl (by decide) ?_
  refine b_as (pc2 := 11) (al2 := [(4, _), (0, _), (1, _), (3, _)]) d_La_raw_9 (by decide) rfl rfl ?_
  refine b_ic (pc2 := 12) (x := Int32.ofNat 1) d_La_raw_11 rfl rfl ?_
  refine b_ir d_La_raw_12 rfl ?_
  exact ⟨rfl, rfl, rfl, rfl, rfl⟩
theorem la_raw_x2 {d : Nat} (hd : 8 ≤ d) {v0 : Int64} {v1 : Int32} (hX : ∀ e, 7 ≤ e → bm e (S0 n0) R0 58 [.ref 1, .long v0, .int v1] W J g L (bX 1 W1 J1 g1 L)) : bm d (S0 n0) R0 57 [.ref 1, .long v0, .int v1] W J g L (bR (some (.int (Int32.ofNat 2))) W1 J1 g1 L) := by
  obtain ⟨e, rfl⟩ : ∃ e, d = e + 1 := ⟨d - 1, by omega⟩
  refine bm_of (Nat.le_of_ble_eq_true rfl) (Or.inr bR_ret) ?_
  show bT e (S0 n0) R0 mt_La_raw _ 0 [(0, .ref 1), (1, .long v0), (3, .int v1)] [] W J g L 0 0
  have hSR := SR0 n0
  refine b_aln (pc2 := 1) d_La_raw_0 rfl rfl ?_
  refine b_lln (pc2 := 2) d_La_raw_1 rfl rfl ?_
  refine b_iln (pc2 := 3) d_La_raw_2 rfl rfl ?_
  refine b_cvH (c2 := 1) (u2 := 6) (t := 13) (hX e (by omega)) d_La_raw_3 q_12_33 (Nat.le_of_ble_eq_true rfl) rfl rfl (sh_1 n0) (Nat.le_of_ble_eq_true rfl) rfl rfl (by decide) (by decide) rfl (by decide) ?_
  refine b_as (pc2 := 15) (al2 := [(4, _), (0, _), (1, _), (3, _)]) d_La_raw_13 (by decide) rfl rfl ?_
  refine b_ic (pc2 := 16) (x := Int32.ofNat 2) d_La_raw_15 rfl rfl ?_
  refine b_ir d_La_raw_16 rfl ?_
  exact ⟨rfl, rfl, rfl, rfl, rfl⟩
theorem la_event {d : Nat} (hd : 8 ≤ d) {v0 : Int32} {v1 : Int64} {v2 : Int64} {v : Int32} (hX : ∀ e, 7 ≤ e → bm e (S0 n0) R0 60 [.ref 1, .int v0, .long v1, .long v2] W J g L (bR (some (.int v)) W1 J1 g L)) : bm d (S0 n0) R0 59 [.ref 1, .int v0, .long v1, .long v2, .ref 166] W J g L (bR (some (.int (Int32.ofNat 0))) W1 J1 g (am_u2 L 166 0 v.toInt64)) := by
  obtain ⟨e, rfl⟩ : ∃ e, d = e + 1 := ⟨d - 1, by omega⟩
  refine bm_of (Nat.le_of_ble_eq_true rfl) (Or.inr bR_ret) ?_
  show bT e (S0 n0) R0 mt_La_event _ 0 [(0, .ref 1), (1, .int v0), (2, .long v1), (4, .long v2), (6, .ref 166)] [] W J g L 0 0
  have hSR := SR0 n0
  refine b_al (pc2 := 2) d_La_event_0 rfl rfl ?_
  refine b_ic (pc2 := 3) (x := Int32.ofNat 0) d_La_event_2 rfl rfl ?_
  refine b_aln (pc2 := 4) d_La_event_3 rfl rfl ?_
  refine b_iln (pc2 := 5) d_La_event_4 rfl rfl ?_
  refine b_lln (pc2 := 6) d_La_event_5 rfl rfl ?_
  refine b_ll (pc2 := 8) d_La_event_6 rfl rfl ?_
  refine b_cv1 (pc2 := 11) (c2 := 1) (u2 := 6) (hX e (by omega)) d_La_event_8 q_12_37 (Nat.le_of_ble_eq_true rfl) rfl rfl (sh_1 n0) (Nat.le_of_ble_eq_true rfl) rfl rfl (by decide) (by decide) rfl ?_
  refine b_pure (pc2 := 12) d_La_event_11 rfl rfl rfl ?_
  refine b_lst (pc2 := 13) d_La_event_12 (sh_166 n0) (i_in (i := 0) (by decide) (by decide)) (rfl) rfl ?_
  refine b_go (pc2 := 24) d_La_event_13 rfl ?_
  refine b_ic (pc2 := 25) (x := Int32.ofNat 0) d_La_event_24 rfl rfl ?_
  refine b_ir d_La_event_25 rfl ?_
  exact ⟨rfl, rfl, rfl, rfl, rfl⟩
theorem la_event_x1 {d : Nat} (hd : 8 ≤ d) {v0 : Int32} {v1 : Int64} {v2 : Int64} (hX : ∀ e, 7 ≤ e → bm e (S0 n0) R0 60 [.ref 1, .int v0, .long v1, .long v2] W J g L (bX 0 W1 J1 g1 L)) : bm d (S0 n0) R0 59 [.ref 1, .int v0, .long v1, .long v2, .ref 166] W J g L (bR (some (.int (Int32.ofNat 1))) W1 J1 g1 L) := by
  obtain ⟨e, rfl⟩ : ∃ e, d = e + 1 := ⟨d - 1, by omega⟩
  refine bm_of (Nat.le_of_ble_eq_true rfl) (Or.inr bR_ret) ?_
  show bT e (S0 n0) R0 mt_La_event _ 0 [(0, .ref 1), (1, .int v0), (2, .long v1), (4, .long v2), (6, .ref 166)] [] W J g L 0 0
  have hSR := SR0 n0
  refine b_al (pc2 := 2) d_La_event_0 rfl rfl ?_
  refine b_ic (pc2 := 3) (x := Int32.ofNat 0) d_La_event_2 rfl rfl ?_
  refine b_aln (pc2 := 4) d_La_event_3 rfl rfl ?_
  refine b_iln (pc2 := 5) d_La_event_4 rfl rfl ?_
  refine b_lln (pc2 := 6) d_La_event_5 rfl rfl ?_
  refine b_ll (pc2 := 8) d_La_event_6 rfl rfl ?_
  refine b_cvH (c2 := 1) (u2 := 6) (t := 16) (hX e (by omega)) d_La_event_8 q_12_37 (Nat.le_of_ble_eq_true rfl) rfl rfl (sh_1 n0) (Nat.le_of_ble_eq_true rfl) rfl rfl (by decide) (by decide) rfl (by decide) ?_
  refine b_as (pc2 := 18) (al2 := [(7, _), (0, _), (1, _), (2, _), (4, _), (6, _)]) d_La_event_16 (by decide) rfl rfl ?_
  refine b_ic (pc2 := 19) (x := Int32.ofNat 1) d_La_event_18 rfl rfl ?_
  refine b_ir d_La_event_19 rfl ?_
  exact ⟨rfl, rfl, rfl, rfl, rfl⟩
theorem la_event_x2 {d : Nat} (hd : 8 ≤ d) {v0 : Int32} {v1 : Int64} {v2 : Int64} (hX : ∀ e, 7 ≤ e → bm e (S0 n0) R0 60 [.ref 1, .int v0, .long v1, .long v2] W J g L (bX 1 W1 J1 g1 L)) : bm d (S0 n0) R0 59 [.ref 1, .int v0, .long v1, .long v2, .ref 166] W J g L (bR (some (.int (Int32.ofNat 2))) W1 J1 g1 L) := by
  obtain ⟨e, rfl⟩ : ∃ e, d = e + 1 := ⟨d - 1, by omega⟩
  refine bm_of (Nat.le_of_ble_eq_true rfl) (Or.inr bR_ret) ?_
  show bT e (S0 n0) R0 mt_La_event _ 0 [(0, .ref 1), (1, .int v0), (2, .long v1), (4, .long v2), (6, .ref 166)] [] W J g L 0 0
  have hSR := SR0 n0
  refine b_al (pc2 := 2) d_La_event_0 rfl rfl ?_
  refine b_ic (pc2 := 3) (x := Int32.ofNat 0) d_La_event_2 rfl rfl ?_
  refine b_aln (pc2 := 4) d_La_event_3 rfl rfl ?_
  refine b_iln (pc2 := 5) d_La_event_4 rfl rfl ?_
  refine b_lln (pc2 := 6) d_La_event_5 rfl rfl ?_
  refine b_ll (pc2 := 8) d_La_event_6 rfl rfl ?_
  refine b_cvH (c2 := 1) (u2 := 6) (t := 20) (hX e (by omega)) d_La_event_8 q_12_37 (Nat.le_of_ble_eq_true rfl) rfl rfl (sh_1 n0) (Nat.le_of_ble_eq_true rfl) rfl rfl (by decide) (by decide) rfl (by decide) ?_
  refine b_as (pc2 := 22) (al2 := [(7, _), (0, _), (1, _), (2, _), (4, _), (6, _)]) d_La_event_20 (by decide) rfl rfl ?_
  refine b_ic (pc2 := 23) (x := Int32.ofNat 2) d_La_event_22 rfl rfl ?_
  refine b_ir d_La_event_23 rfl ?_
  exact ⟨rfl, rfl, rfl, rfl, rfl⟩
theorem la_run {d : Nat} (hd : 8 ≤ d) {v0 : Int32} {v : Int32} (hX : ∀ e, 7 ≤ e → bm e (S0 n0) R0 111 [.ref 1, .int v0] W J g L (bR (some (.int v)) W1 J1 g L)) : bm d (S0 n0) R0 110 [.ref 1, .int v0, .ref 166] W J g L (bR (some (.int (Int32.ofNat 0))) W1 J1 g (am_u2 L 166 0 v.toInt64)) := by
  obtain ⟨e, rfl⟩ : ∃ e, d = e + 1 := ⟨d - 1, by omega⟩
  refine bm_of (Nat.le_of_ble_eq_true rfl) (Or.inr bR_ret) ?_
  show bT e (S0 n0) R0 mt_La_run _ 0 [(0, .ref 1), (1, .int v0), (2, .ref 166)] [] W J g L 0 0
  have hSR := SR0 n0
  refine b_aln (pc2 := 1) d_La_run_0 rfl rfl ?_
  refine b_ic (pc2 := 2) (x := Int32.ofNat 0) d_La_run_1 rfl rfl ?_
  refine b_aln (pc2 := 3) d_La_run_2 rfl rfl ?_
  refine b_iln (pc2 := 4) d_La_run_3 rfl rfl ?_
  refine b_cv1 (pc2 := 7) (c2 := 1) (u2 := 6) (hX e (by omega)) d_La_run_4 q_12_41 (Nat.le_of_ble_eq_true rfl) rfl rfl (sh_1 n0) (Nat.le_of_ble_eq_true rfl) rfl rfl (by decide) (by decide) rfl ?_
  refine b_pure (pc2 := 8) d_La_run_7 rfl rfl rfl ?_
  refine b_lst (pc2 := 9) d_La_run_8 (sh_166 n0) (i_in (i := 0) (by decide) (by decide)) (rfl) rfl ?_
  refine b_go (pc2 := 15) d_La_run_9 rfl ?_
  refine b_ic (pc2 := 16) (x := Int32.ofNat 0) d_La_run_15 rfl rfl ?_
  refine b_ir d_La_run_16 rfl ?_
  exact ⟨rfl, rfl, rfl, rfl, rfl⟩
theorem la_run_x1 {d : Nat} (hd : 8 ≤ d) {v0 : Int32} (hX : ∀ e, 7 ≤ e → bm e (S0 n0) R0 111 [.ref 1, .int v0] W J g L (bX 0 W1 J1 g1 L)) : bm d (S0 n0) R0 110 [.ref 1, .int v0, .ref 166] W J g L (bR (some (.int (Int32.ofNat 1))) W1 J1 g1 L) := by
  obtain ⟨e, rfl⟩ : ∃ e, d = e + 1 := ⟨d - 1, by omega⟩
  refine bm_of (Nat.le_of_ble_eq_true rfl) (Or.inr bR_ret) ?_
  show bT e (S0 n0) R0 mt_La_run _ 0 [(0, .ref 1), (1, .int v0), (2, .ref 166)] [] W J g L 0 0
  have hSR := SR0 n0
  refine b_aln (pc2 := 1) d_La_run_0 rfl rfl ?_
  refine b_ic (pc2 := 2) (x := Int32.ofNat 0) d_La_run_1 rfl rfl ?_
  refine b_aln (pc2 := 3) d_La_run_2 rfl rfl ?_
  refine b_iln (pc2 := 4) d_La_run_3 rfl rfl ?_
  refine b_cvH (c2 := 1) (u2 := 6) (t := 12) (hX e (by omega)) d_La_run_4 q_12_41 (Nat.le_of_ble_eq_true rfl) rfl rfl (sh_1 n0) (Nat.le_of_ble_eq_true rfl) rfl rfl (by decide) (by decide) rfl (by decide) ?_
  refine b_asn (pc2 := 13) (al2 := [(3, _), (0, _), (1, _), (2, _)]) d_La_run_12 (by decide) rfl rfl ?_
  refine b_ic (pc2 := 14) (x := Int32.ofNat 1) d_La_run_13 rfl rfl ?_
  refine b_ir d_La_run_14 rfl ?_
  exact ⟨rfl, rfl, rfl, rfl, rfl⟩
theorem la_outcome {d : Nat} (hd : 8 ≤ d)  {v : Int32} (hX : ∀ e, 7 ≤ e → bm e (S0 n0) R0 113 [.ref 1] W J g L (bR (some (.int v)) W1 J1 g L)) : bm d (S0 n0) R0 112 [.ref 1, .ref 166] W J g L (bR (some (.int (Int32.ofNat 0))) W1 J1 g (am_u2 L 166 0 v.toInt64)) := by
  obtain ⟨e, rfl⟩ : ∃ e, d = e + 1 := ⟨d - 1, by omega⟩
  refine bm_of (Nat.le_of_ble_eq_true rfl) (Or.inr bR_ret) ?_
  show bT e (S0 n0) R0 mt_La_outcome _ 0 [(0, .ref 1), (1, .ref 166)] [] W J g L 0 0
  have hSR := SR0 n0
  refine b_aln (pc2 := 1) d_La_outcome_0 rfl rfl ?_
  refine b_ic (pc2 := 2) (x := Int32.ofNat 0) d_La_outcome_1 rfl rfl ?_
  refine b_aln (pc2 := 3) d_La_outcome_2 rfl rfl ?_
  refine b_cv1 (pc2 := 6) (c2 := 1) (u2 := 6) (hX e (by omega)) d_La_outcome_3 q_12_45 (Nat.le_of_ble_eq_true rfl) rfl rfl (sh_1 n0) (Nat.le_of_ble_eq_true rfl) rfl rfl (by decide) (by decide) rfl ?_
  refine b_pure (pc2 := 7) d_La_outcome_6 rfl rfl rfl ?_
  refine b_lst (pc2 := 8) d_La_outcome_7 (sh_166 n0) (i_in (i := 0) (by decide) (by decide)) (rfl) rfl ?_
  refine b_go (pc2 := 14) d_La_outcome_8 rfl ?_
  refine b_ic (pc2 := 15) (x := Int32.ofNat 0) d_La_outcome_14 rfl rfl ?_
  refine b_ir d_La_outcome_15 rfl ?_
  exact ⟨rfl, rfl, rfl, rfl, rfl⟩
theorem la_outcome_x1 {d : Nat} (hd : 8 ≤ d)  (hX : ∀ e, 7 ≤ e → bm e (S0 n0) R0 113 [.ref 1] W J g L (bX 2 W1 J1 g1 L)) : bm d (S0 n0) R0 112 [.ref 1, .ref 166] W J g L (bR (some (.int (Int32.ofNat 1))) W1 J1 g1 L) := by
  obtain ⟨e, rfl⟩ : ∃ e, d = e + 1 := ⟨d - 1, by omega⟩
  refine bm_of (Nat.le_of_ble_eq_true rfl) (Or.inr bR_ret) ?_
  show bT e (S0 n0) R0 mt_La_outcome _ 0 [(0, .ref 1), (1, .ref 166)] [] W J g L 0 0
  have hSR := SR0 n0
  refine b_aln (pc2 := 1) d_La_outcome_0 rfl rfl ?_
  refine b_ic (pc2 := 2) (x := Int32.ofNat 0) d_La_outcome_1 rfl rfl ?_
  refine b_aln (pc2 := 3) d_La_outcome_2 rfl rfl ?_
  refine b_cvH (c2 := 1) (u2 := 6) (t := 11) (hX e (by omega)) d_La_outcome_3 q_12_45 (Nat.le_of_ble_eq_true rfl) rfl rfl (sh_1 n0) (Nat.le_of_ble_eq_true rfl) rfl rfl (by decide) (by decide) rfl (by decide) ?_
  refine b_asn (pc2 := 12) (al2 := [(2, _), (0, _), (1, _)]) d_La_outcome_11 (by decide) rfl rfl ?_
  refine b_ic (pc2 := 13) (x := Int32.ofNat 1) d_La_outcome_12 rfl rfl ?_
  refine b_ir d_La_outcome_13 rfl ?_
  exact ⟨rfl, rfl, rfl, rfl, rfl⟩
theorem la_data {d : Nat} (hd : 8 ≤ d) {v0 : Int32} {v : Int32} (hX : ∀ e, 7 ≤ e → bm e (S0 n0) R0 116 [.ref 1, .int v0] W J g L (bR (some (.int v)) W1 J1 g L)) : bm d (S0 n0) R0 115 [.ref 1, .int v0, .ref 166] W J g L (bR (some (.int (Int32.ofNat 0))) W1 J1 g (am_u2 L 166 0 v.toInt64)) := by
  obtain ⟨e, rfl⟩ : ∃ e, d = e + 1 := ⟨d - 1, by omega⟩
  refine bm_of (Nat.le_of_ble_eq_true rfl) (Or.inr bR_ret) ?_
  show bT e (S0 n0) R0 mt_La_data _ 0 [(0, .ref 1), (1, .int v0), (2, .ref 166)] [] W J g L 0 0
  have hSR := SR0 n0
  refine b_aln (pc2 := 1) d_La_data_0 rfl rfl ?_
  refine b_ic (pc2 := 2) (x := Int32.ofNat 0) d_La_data_1 rfl rfl ?_
  refine b_aln (pc2 := 3) d_La_data_2 rfl rfl ?_
  refine b_iln (pc2 := 4) d_La_data_3 rfl rfl ?_
  refine b_cv1 (pc2 := 7) (c2 := 1) (u2 := 6) (hX e (by omega)) d_La_data_4 q_12_51 (Nat.le_of_ble_eq_true rfl) rfl rfl (sh_1 n0) (Nat.le_of_ble_eq_true rfl) rfl rfl (by decide) (by decide) rfl ?_
  refine b_pure (pc2 := 8) d_La_data_7 rfl rfl rfl ?_
  refine b_lst (pc2 := 9) d_La_data_8 (sh_166 n0) (i_in (i := 0) (by decide) (by decide)) (rfl) rfl ?_
  refine b_go (pc2 := 15) d_La_data_9 rfl ?_
  refine b_ic (pc2 := 16) (x := Int32.ofNat 0) d_La_data_15 rfl rfl ?_
  refine b_ir d_La_data_16 rfl ?_
  exact ⟨rfl, rfl, rfl, rfl, rfl⟩
theorem la_data_x1 {d : Nat} (hd : 8 ≤ d) {v0 : Int32} (hX : ∀ e, 7 ≤ e → bm e (S0 n0) R0 116 [.ref 1, .int v0] W J g L (bX 3 W1 J1 g1 L)) : bm d (S0 n0) R0 115 [.ref 1, .int v0, .ref 166] W J g L (bR (some (.int (Int32.ofNat 1))) W1 J1 g1 L) := by
  obtain ⟨e, rfl⟩ : ∃ e, d = e + 1 := ⟨d - 1, by omega⟩
  refine bm_of (Nat.le_of_ble_eq_true rfl) (Or.inr bR_ret) ?_
  show bT e (S0 n0) R0 mt_La_data _ 0 [(0, .ref 1), (1, .int v0), (2, .ref 166)] [] W J g L 0 0
  have hSR := SR0 n0
  refine b_aln (pc2 := 1) d_La_data_0 rfl rfl ?_
  refine b_ic (pc2 := 2) (x := Int32.ofNat 0) d_La_data_1 rfl rfl ?_
  refine b_aln (pc2 := 3) d_La_data_2 rfl rfl ?_
  refine b_iln (pc2 := 4) d_La_data_3 rfl rfl ?_
  refine b_cvH (c2 := 1) (u2 := 6) (t := 12) (hX e (by omega)) d_La_data_4 q_12_51 (Nat.le_of_ble_eq_true rfl) rfl rfl (sh_1 n0) (Nat.le_of_ble_eq_true rfl) rfl rfl (by decide) (by decide) rfl (by decide) ?_
  refine b_asn (pc2 := 13) (al2 := [(3, _), (0, _), (1, _), (2, _)]) d_La_data_12 (by decide) rfl rfl ?_
  refine b_ic (pc2 := 14) (x := Int32.ofNat 1) d_La_data_13 rfl rfl ?_
  refine b_ir d_La_data_14 rfl ?_
  exact ⟨rfl, rfl, rfl, rfl, rfl⟩
theorem la_note {d : Nat} (hd : 8 ≤ d) {v0 : Int32} {v1 : Int32} {v : Int32} (hX : ∀ e, 7 ≤ e → bm e (S0 n0) R0 120 [.ref 1, .int v0, .int v1] W J g L (bR (some (.int v)) W1 J1 g L)) : bm d (S0 n0) R0 119 [.ref 1, .int v0, .int v1, .ref 166] W J g L (bR (some (.int (Int32.ofNat 0))) W1 J1 g (am_u2 L 166 0 v.toInt64)) := by
  obtain ⟨e, rfl⟩ : ∃ e, d = e + 1 := ⟨d - 1, by omega⟩
  refine bm_of (Nat.le_of_ble_eq_true rfl) (Or.inr bR_ret) ?_
  show bT e (S0 n0) R0 mt_La_note _ 0 [(0, .ref 1), (1, .int v0), (2, .int v1), (3, .ref 166)] [] W J g L 0 0
  have hSR := SR0 n0
  refine b_aln (pc2 := 1) d_La_note_0 rfl rfl ?_
  refine b_ic (pc2 := 2) (x := Int32.ofNat 0) d_La_note_1 rfl rfl ?_
  refine b_aln (pc2 := 3) d_La_note_2 rfl rfl ?_
  refine b_iln (pc2 := 4) d_La_note_3 rfl rfl ?_
  refine b_iln (pc2 := 5) d_La_note_4 rfl rfl ?_
  refine b_cv1 (pc2 := 8) (c2 := 1) (u2 := 6) (hX e (by omega)) d_La_note_5 q_12_56 (Nat.le_of_ble_eq_true rfl) rfl rfl (sh_1 n0) (Nat.le_of_ble_eq_true rfl) rfl rfl (by decide) (by decide) rfl ?_
  refine b_pure (pc2 := 9) d_La_note_8 rfl rfl rfl ?_
  refine b_lst (pc2 := 10) d_La_note_9 (sh_166 n0) (i_in (i := 0) (by decide) (by decide)) (rfl) rfl ?_
  refine b_go (pc2 := 21) d_La_note_10 rfl ?_
  refine b_ic (pc2 := 22) (x := Int32.ofNat 0) d_La_note_21 rfl rfl ?_
  refine b_ir d_La_note_22 rfl ?_
  exact ⟨rfl, rfl, rfl, rfl, rfl⟩
theorem la_note_x1 {d : Nat} (hd : 8 ≤ d) {v0 : Int32} {v1 : Int32} (hX : ∀ e, 7 ≤ e → bm e (S0 n0) R0 120 [.ref 1, .int v0, .int v1] W J g L (bX 2 W1 J1 g1 L)) : bm d (S0 n0) R0 119 [.ref 1, .int v0, .int v1, .ref 166] W J g L (bR (some (.int (Int32.ofNat 1))) W1 J1 g1 L) := by
  obtain ⟨e, rfl⟩ : ∃ e, d = e + 1 := ⟨d - 1, by omega⟩
  refine bm_of (Nat.le_of_ble_eq_true rfl) (Or.inr bR_ret) ?_
  show bT e (S0 n0) R0 mt_La_note _ 0 [(0, .ref 1), (1, .int v0), (2, .int v1), (3, .ref 166)] [] W J g L 0 0
  have hSR := SR0 n0
  refine b_aln (pc2 := 1) d_La_note_0 rfl rfl ?_
  refine b_ic (pc2 := 2) (x := Int32.ofNat 0) d_La_note_1 rfl rfl ?_
  refine b_aln (pc2 := 3) d_La_note_2 rfl rfl ?_
  refine b_iln (pc2 := 4) d_La_note_3 rfl rfl ?_
  refine b_iln (pc2 := 5) d_La_note_4 rfl rfl ?_
  refine b_cvH (c2 := 1) (u2 := 6) (t := 13) (hX e (by omega)) d_La_note_5 q_12_56 (Nat.le_of_ble_eq_true rfl) rfl rfl (sh_1 n0) (Nat.le_of_ble_eq_true rfl) rfl rfl (by decide) (by decide) rfl (by decide) ?_
  refine b_as (pc2 := 15) (al2 := [(4, _), (0, _), (1, _), (2, _), (3, _)]) d_La_note_13 (by decide) rfl rfl ?_
  refine b_ic (pc2 := 16) (x := Int32.ofNat 1) d_La_note_15 rfl rfl ?_
  refine b_ir d_La_note_16 rfl ?_
  exact ⟨rfl, rfl, rfl, rfl, rfl⟩
theorem la_note_x2 {d : Nat} (hd : 8 ≤ d) {v0 : Int32} {v1 : Int32} (hX : ∀ e, 7 ≤ e → bm e (S0 n0) R0 120 [.ref 1, .int v0, .int v1] W J g L (bX 3 W1 J1 g1 L)) : bm d (S0 n0) R0 119 [.ref 1, .int v0, .int v1, .ref 166] W J g L (bR (some (.int (Int32.ofNat 2))) W1 J1 g1 L) := by
  obtain ⟨e, rfl⟩ : ∃ e, d = e + 1 := ⟨d - 1, by omega⟩
  refine bm_of (Nat.le_of_ble_eq_true rfl) (Or.inr bR_ret) ?_
  show bT e (S0 n0) R0 mt_La_note _ 0 [(0, .ref 1), (1, .int v0), (2, .int v1), (3, .ref 166)] [] W J g L 0 0
  have hSR := SR0 n0
  refine b_aln (pc2 := 1) d_La_note_0 rfl rfl ?_
  refine b_ic (pc2 := 2) (x := Int32.ofNat 0) d_La_note_1 rfl rfl ?_
  refine b_aln (pc2 := 3) d_La_note_2 rfl rfl ?_
  refine b_iln (pc2 := 4) d_La_note_3 rfl rfl ?_
  refine b_iln (pc2 := 5) d_La_note_4 rfl rfl ?_
  refine b_cvH (c2 := 1) (u2 := 6) (t := 17) (hX e (by omega)) d_La_note_5 q_12_56 (Nat.le_of_ble_eq_true rfl) rfl rfl (sh_1 n0) (Nat.le_of_ble_eq_true rfl) rfl rfl (by decide) (by decide) rfl (by decide) ?_
  refine b_as (pc2 := 19) (al2 := [(4, _), (0, _), (1, _), (2, _), (3, _)]) d_La_note_17 (by decide) rfl rfl ?_
  refine b_ic (pc2 := 20) (x := Int32.ofNat 2) d_La_note_19 rfl rfl ?_
  refine b_ir d_La_note_20 rfl ?_
  exact ⟨rfl, rfl, rfl, rfl, rfl⟩
theorem la_value {d : Nat} (hd : 8 ≤ d) {v0 : Int32} {v1 : Int32} {v : Int32} (hX : ∀ e, 7 ≤ e → bm e (S0 n0) R0 124 [.ref 1, .int v0, .int v1] W J g L (bR (some (.int v)) W1 J1 g L)) : bm d (S0 n0) R0 123 [.ref 1, .int v0, .int v1, .ref 166] W J g L (bR (some (.int (Int32.ofNat 0))) W1 J1 g (am_u2 L 166 0 v.toInt64)) := by
  obtain ⟨e, rfl⟩ : ∃ e, d = e + 1 := ⟨d - 1, by omega⟩
  refine bm_of (Nat.le_of_ble_eq_true rfl) (Or.inr bR_ret) ?_
  show bT e (S0 n0) R0 mt_La_value _ 0 [(0, .ref 1), (1, .int v0), (2, .int v1), (3, .ref 166)] [] W J g L 0 0
  have hSR := SR0 n0
  refine b_aln (pc2 := 1) d_La_value_0 rfl rfl ?_
  refine b_ic (pc2 := 2) (x := Int32.ofNat 0) d_La_value_1 rfl rfl ?_
  refine b_aln (pc2 := 3) d_La_value_2 rfl rfl ?_
  refine b_iln (pc2 := 4) d_La_value_3 rfl rfl ?_
  refine b_iln (pc2 := 5) d_La_value_4 rfl rfl ?_
  refine b_cv1 (pc2 := 8) (c2 := 1) (u2 := 6) (hX e (by omega)) d_La_value_5 q_12_60 (Nat.le_of_ble_eq_true rfl) rfl rfl (sh_1 n0) (Nat.le_of_ble_eq_true rfl) rfl rfl (by decide) (by decide) rfl ?_
  refine b_pure (pc2 := 9) d_La_value_8 rfl rfl rfl ?_
  refine b_lst (pc2 := 10) d_La_value_9 (sh_166 n0) (i_in (i := 0) (by decide) (by decide)) (rfl) rfl ?_
  refine b_go (pc2 := 21) d_La_value_10 rfl ?_
  refine b_ic (pc2 := 22) (x := Int32.ofNat 0) d_La_value_21 rfl rfl ?_
  refine b_ir d_La_value_22 rfl ?_
  exact ⟨rfl, rfl, rfl, rfl, rfl⟩
theorem la_value_x1 {d : Nat} (hd : 8 ≤ d) {v0 : Int32} {v1 : Int32} (hX : ∀ e, 7 ≤ e → bm e (S0 n0) R0 124 [.ref 1, .int v0, .int v1] W J g L (bX 0 W1 J1 g1 L)) : bm d (S0 n0) R0 123 [.ref 1, .int v0, .int v1, .ref 166] W J g L (bR (some (.int (Int32.ofNat 1))) W1 J1 g1 L) := by
  obtain ⟨e, rfl⟩ : ∃ e, d = e + 1 := ⟨d - 1, by omega⟩
  refine bm_of (Nat.le_of_ble_eq_true rfl) (Or.inr bR_ret) ?_
  show bT e (S0 n0) R0 mt_La_value _ 0 [(0, .ref 1), (1, .int v0), (2, .int v1), (3, .ref 166)] [] W J g L 0 0
  have hSR := SR0 n0
  refine b_aln (pc2 := 1) d_La_value_0 rfl rfl ?_
  refine b_ic (pc2 := 2) (x := Int32.ofNat 0) d_La_value_1 rfl rfl ?_
  refine b_aln (pc2 := 3) d_La_value_2 rfl rfl ?_
  refine b_iln (pc2 := 4) d_La_value_3 rfl rfl ?_
  refine b_iln (pc2 := 5) d_La_value_4 rfl rfl ?_
  refine b_cvH (c2 := 1) (u2 := 6) (t := 13) (hX e (by omega)) d_La_value_5 q_12_60 (Nat.le_of_ble_eq_true rfl) rfl rfl (sh_1 n0) (Nat.le_of_ble_eq_true rfl) rfl rfl (by decide) (by decide) rfl (by decide) ?_
  refine b_as (pc2 := 15) (al2 := [(4, _), (0, _), (1, _), (2, _), (3, _)]) d_La_value_13 (by decide) rfl rfl ?_
  refine b_ic (pc2 := 16) (x := Int32.ofNat 1) d_La_value_15 rfl rfl ?_
  refine b_ir d_La_value_16 rfl ?_
  exact ⟨rfl, rfl, rfl, rfl, rfl⟩
theorem la_value_x2 {d : Nat} (hd : 8 ≤ d) {v0 : Int32} {v1 : Int32} (hX : ∀ e, 7 ≤ e → bm e (S0 n0) R0 124 [.ref 1, .int v0, .int v1] W J g L (bX 3 W1 J1 g1 L)) : bm d (S0 n0) R0 123 [.ref 1, .int v0, .int v1, .ref 166] W J g L (bR (some (.int (Int32.ofNat 2))) W1 J1 g1 L) := by
  obtain ⟨e, rfl⟩ : ∃ e, d = e + 1 := ⟨d - 1, by omega⟩
  refine bm_of (Nat.le_of_ble_eq_true rfl) (Or.inr bR_ret) ?_
  show bT e (S0 n0) R0 mt_La_value _ 0 [(0, .ref 1), (1, .int v0), (2, .int v1), (3, .ref 166)] [] W J g L 0 0
  have hSR := SR0 n0
  refine b_aln (pc2 := 1) d_La_value_0 rfl rfl ?_
  refine b_ic (pc2 := 2) (x := Int32.ofNat 0) d_La_value_1 rfl rfl ?_
  refine b_aln (pc2 := 3) d_La_value_2 rfl rfl ?_
  refine b_iln (pc2 := 4) d_La_value_3 rfl rfl ?_
  refine b_iln (pc2 := 5) d_La_value_4 rfl rfl ?_
  refine b_cvH (c2 := 1) (u2 := 6) (t := 17) (hX e (by omega)) d_La_value_5 q_12_60 (Nat.le_of_ble_eq_true rfl) rfl rfl (sh_1 n0) (Nat.le_of_ble_eq_true rfl) rfl rfl (by decide) (by decide) rfl (by decide) ?_
  refine b_as (pc2 := 19) (al2 := [(4, _), (0, _), (1, _), (2, _), (3, _)]) d_La_value_17 (by decide) rfl rfl ?_
  refine b_ic (pc2 := 20) (x := Int32.ofNat 2) d_La_value_19 rfl rfl ?_
  refine b_ir d_La_value_20 rfl ?_
  exact ⟨rfl, rfl, rfl, rfl, rfl⟩
theorem la_air {d : Nat} (hd : 8 ≤ d) {v0 : Int32} {v1 : Int32} {v : Int32} (hX : ∀ e, 7 ≤ e → bm e (S0 n0) R0 126 [.ref 1, .int v0, .int v1] W J g L (bR (some (.int v)) W1 J1 g L)) : bm d (S0 n0) R0 125 [.ref 1, .int v0, .int v1, .ref 166] W J g L (bR (some (.int (Int32.ofNat 0))) W1 J1 g (am_u2 L 166 0 v.toInt64)) := by
  obtain ⟨e, rfl⟩ : ∃ e, d = e + 1 := ⟨d - 1, by omega⟩
  refine bm_of (Nat.le_of_ble_eq_true rfl) (Or.inr bR_ret) ?_
  show bT e (S0 n0) R0 mt_La_air _ 0 [(0, .ref 1), (1, .int v0), (2, .int v1), (3, .ref 166)] [] W J g L 0 0
  have hSR := SR0 n0
  refine b_aln (pc2 := 1) d_La_air_0 rfl rfl ?_
  refine b_ic (pc2 := 2) (x := Int32.ofNat 0) d_La_air_1 rfl rfl ?_
  refine b_aln (pc2 := 3) d_La_air_2 rfl rfl ?_
  refine b_iln (pc2 := 4) d_La_air_3 rfl rfl ?_
  refine b_iln (pc2 := 5) d_La_air_4 rfl rfl ?_
  refine b_cv1 (pc2 := 8) (c2 := 1) (u2 := 6) (hX e (by omega)) d_La_air_5 q_12_63 (Nat.le_of_ble_eq_true rfl) rfl rfl (sh_1 n0) (Nat.le_of_ble_eq_true rfl) rfl rfl (by decide) (by decide) rfl ?_
  refine b_pure (pc2 := 9) d_La_air_8 rfl rfl rfl ?_
  refine b_lst (pc2 := 10) d_La_air_9 (sh_166 n0) (i_in (i := 0) (by decide) (by decide)) (rfl) rfl ?_
  refine b_go (pc2 := 21) d_La_air_10 rfl ?_
  refine b_ic (pc2 := 22) (x := Int32.ofNat 0) d_La_air_21 rfl rfl ?_
  refine b_ir d_La_air_22 rfl ?_
  exact ⟨rfl, rfl, rfl, rfl, rfl⟩
theorem la_air_x1 {d : Nat} (hd : 8 ≤ d) {v0 : Int32} {v1 : Int32} (hX : ∀ e, 7 ≤ e → bm e (S0 n0) R0 126 [.ref 1, .int v0, .int v1] W J g L (bX 2 W1 J1 g1 L)) : bm d (S0 n0) R0 125 [.ref 1, .int v0, .int v1, .ref 166] W J g L (bR (some (.int (Int32.ofNat 1))) W1 J1 g1 L) := by
  obtain ⟨e, rfl⟩ : ∃ e, d = e + 1 := ⟨d - 1, by omega⟩
  refine bm_of (Nat.le_of_ble_eq_true rfl) (Or.inr bR_ret) ?_
  show bT e (S0 n0) R0 mt_La_air _ 0 [(0, .ref 1), (1, .int v0), (2, .int v1), (3, .ref 166)] [] W J g L 0 0
  have hSR := SR0 n0
  refine b_aln (pc2 := 1) d_La_air_0 rfl rfl ?_
  refine b_ic (pc2 := 2) (x := Int32.ofNat 0) d_La_air_1 rfl rfl ?_
  refine b_aln (pc2 := 3) d_La_air_2 rfl rfl ?_
  refine b_iln (pc2 := 4) d_La_air_3 rfl rfl ?_
  refine b_iln (pc2 := 5) d_La_air_4 rfl rfl ?_
  refine b_cvH (c2 := 1) (u2 := 6) (t := 13) (hX e (by omega)) d_La_air_5 q_12_63 (Nat.le_of_ble_eq_true rfl) rfl rfl (sh_1 n0) (Nat.le_of_ble_eq_true rfl) rfl rfl (by decide) (by decide) rfl (by decide) ?_
  refine b_as (pc2 := 15) (al2 := [(4, _), (0, _), (1, _), (2, _), (3, _)]) d_La_air_13 (by decide) rfl rfl ?_
  refine b_ic (pc2 := 16) (x := Int32.ofNat 1) d_La_air_15 rfl rfl ?_
  refine b_ir d_La_air_16 rfl ?_
  exact ⟨rfl, rfl, rfl, rfl, rfl⟩
theorem la_air_x2 {d : Nat} (hd : 8 ≤ d) {v0 : Int32} {v1 : Int32} (hX : ∀ e, 7 ≤ e → bm e (S0 n0) R0 126 [.ref 1, .int v0, .int v1] W J g L (bX 3 W1 J1 g1 L)) : bm d (S0 n0) R0 125 [.ref 1, .int v0, .int v1, .ref 166] W J g L (bR (some (.int (Int32.ofNat 2))) W1 J1 g1 L) := by
  obtain ⟨e, rfl⟩ : ∃ e, d = e + 1 := ⟨d - 1, by omega⟩
  refine bm_of (Nat.le_of_ble_eq_true rfl) (Or.inr bR_ret) ?_
  show bT e (S0 n0) R0 mt_La_air _ 0 [(0, .ref 1), (1, .int v0), (2, .int v1), (3, .ref 166)] [] W J g L 0 0
  have hSR := SR0 n0
  refine b_aln (pc2 := 1) d_La_air_0 rfl rfl ?_
  refine b_ic (pc2 := 2) (x := Int32.ofNat 0) d_La_air_1 rfl rfl ?_
  refine b_aln (pc2 := 3) d_La_air_2 rfl rfl ?_
  refine b_iln (pc2 := 4) d_La_air_3 rfl rfl ?_
  refine b_iln (pc2 := 5) d_La_air_4 rfl rfl ?_
  refine b_cvH (c2 := 1) (u2 := 6) (t := 17) (hX e (by omega)) d_La_air_5 q_12_63 (Nat.le_of_ble_eq_true rfl) rfl rfl (sh_1 n0) (Nat.le_of_ble_eq_true rfl) rfl rfl (by decide) (by decide) rfl (by decide) ?_
  refine b_as (pc2 := 19) (al2 := [(4, _), (0, _), (1, _), (2, _), (3, _)]) d_La_air_17 (by decide) rfl rfl ?_
  refine b_ic (pc2 := 20) (x := Int32.ofNat 2) d_La_air_19 rfl rfl ?_
  refine b_ir d_La_air_20 rfl ?_
  exact ⟨rfl, rfl, rfl, rfl, rfl⟩
end LW
