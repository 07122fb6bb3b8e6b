/-! Part 67 (written by gen18.py): Server: the shape; parts -/
section SH
variable {n0 : Nat} {W : bw_W} {J : bw_J} {g : Nat} {L : bw_L}
theorem se_shape2 {d : Nat} (hd : 2 ≤ d) (ho : (W 57).getD 0 0 = Int32.ofNat 2) : bm d (S0 n0) R0 78 [.ref 57] W J g L (bR (some (.int (Int32.ofNat (if (W 57).length = 2 then 0 else 4)))) W J g L) := by
  obtain ⟨e, rfl⟩ : ∃ e, d = e + 1 := ⟨d - 1, by omega⟩
  refine bm_of (Nat.le_of_ble_eq_true rfl) (Or.inr bR_ret) ?_
  show bT e (S0 n0) R0 mt_Se_shapeError _ 0 [(0, .ref 57)] [] W J g L 0 0
  have hSR := SR0 n0
  refine b_free fun hlen => ?_
  have hl := hlen 57 20 R_57
  refine b_aln (pc2 := 1) d_Se_shapeError_0 rfl rfl ?_
  refine b_cv1 (pc2 := 4) (c2 := 0) (u2 := 0) (rw_length (by omega) hSR R_57) d_Se_shapeError_1 q_8_80 (Nat.le_of_ble_eq_true rfl) rfl rfl (sh_57 n0) (Nat.le_of_ble_eq_true rfl) rfl rfl (by decide) (by decide) rfl ?_
  refine b_isn (pc2 := 5) (al2 := [(1, _), (0, _)]) d_Se_shapeError_4 (by decide) rfl rfl ?_
  refine b_aln (pc2 := 6) d_Se_shapeError_5 rfl rfl ?_
  refine b_ic (pc2 := 7) (x := Int32.ofNat 0) d_Se_shapeError_6 rfl rfl ?_
  refine b_cv1 (pc2 := 10) (c2 := 0) (u2 := 0) (rw_at (k := 0) (by omega) hSR R_57 (by decide)) d_Se_shapeError_7 q_8_84 (Nat.le_of_ble_eq_true rfl) rfl rfl (sh_57 n0) (Nat.le_of_ble_eq_true rfl) rfl rfl (by decide) (by decide) rfl ?_
  rw [ho]
  refine b_sw (pc2 := 116) (off := 106) d_Se_shapeError_10 rfl rfl rfl (rfl) rfl ?_
  refine b_iln (pc2 := 117) d_Se_shapeError_116 rfl rfl ?_
  refine b_ic (pc2 := 118) (x := Int32.ofNat 2) d_Se_shapeError_117 rfl rfl ?_
  refine b_ifd (pc2 := 125) d_Se_shapeError_118 rfl rfl rfl rfl rfl (fun h118 => ?_) (fun h118 => ?_)
  · refine b_ic (pc2 := 126) (x := Int32.ofNat 0) d_Se_shapeError_125 rfl rfl ?_
    refine b_isn (pc2 := 127) (al2 := [(2, _), (1, _), (0, _)]) d_Se_shapeError_126 (by decide) rfl rfl ?_
    refine b_go (pc2 := 198) d_Se_shapeError_127 rfl ?_
    refine b_iln (pc2 := 199) d_Se_shapeError_198 rfl rfl ?_
    refine b_ifd (pc2 := 206) d_Se_shapeError_199 rfl rfl rfl rfl rfl (fun h199 => ?_) (fun h199 => ?_)
    rotate_left
    · exact absurd (by decide) h199
    refine b_ic (pc2 := 207) (x := Int32.ofNat 4) d_Se_shapeError_206 rfl rfl ?_
    refine b_ir d_Se_shapeError_207 rfl ?_
    rw [i_eq (by omega) (by decide)] at h118
    exact ⟨by rw [if_neg (h118)], rfl, rfl, rfl, rfl⟩
  · refine b_ic (pc2 := 122) (x := Int32.ofNat 1) d_Se_shapeError_121 rfl rfl ?_
    refine b_go (pc2 := 126) d_Se_shapeError_122 rfl ?_
    refine b_isn (pc2 := 127) (al2 := [(2, _), (1, _), (0, _)]) d_Se_shapeError_126 (by decide) rfl rfl ?_
    refine b_go (pc2 := 198) d_Se_shapeError_127 rfl ?_
    refine b_iln (pc2 := 199) d_Se_shapeError_198 rfl rfl ?_
    refine b_ifd (pc2 := 206) d_Se_shapeError_199 rfl rfl rfl rfl rfl (fun h199 => ?_) (fun h199 => ?_)
    · exact absurd h199 (by decide)
    refine b_ic (pc2 := 203) (x := Int32.ofNat 0) d_Se_shapeError_202 rfl rfl ?_
    refine b_go (pc2 := 207) d_Se_shapeError_203 rfl ?_
    refine b_ir d_Se_shapeError_207 rfl ?_
    rw [i_eq (by omega) (by decide)] at h118
    exact ⟨by rw [if_pos (Decidable.not_not.mp h118)], rfl, rfl, rfl, rfl⟩
theorem se_shape10 {d : Nat} (hd : 2 ≤ d) (ho : (W 57).getD 0 0 = Int32.ofNat 10) : bm d (S0 n0) R0 78 [.ref 57] W J g L (bR (some (.int (Int32.ofNat (if (W 57).length = 2 then 0 else 4)))) W J g L) := by
  obtain ⟨e, rfl⟩ : ∃ e, d = e + 1 := ⟨d - 1, by omega⟩
  refine bm_of (Nat.le_of_ble_eq_true rfl) (Or.inr bR_ret) ?_
  show bT e (S0 n0) R0 mt_Se_shapeError _ 0 [(0, .ref 57)] [] W J g L 0 0
  have hSR := SR0 n0
  refine b_free fun hlen => ?_
  have hl := hlen 57 20 R_57
  refine b_aln (pc2 := 1) d_Se_shapeError_0 rfl rfl ?_
  refine b_cv1 (pc2 := 4) (c2 := 0) (u2 := 0) (rw_length (by omega) hSR R_57) d_Se_shapeError_1 q_8_80 (Nat.le_of_ble_eq_true rfl) rfl rfl (sh_57 n0) (Nat.le_of_ble_eq_true rfl) rfl rfl (by decide) (by decide) rfl ?_
  refine b_isn (pc2 := 5) (al2 := [(1, _), (0, _)]) d_Se_shapeError_4 (by decide) rfl rfl ?_
  refine b_aln (pc2 := 6) d_Se_shapeError_5 rfl rfl ?_
  refine b_ic (pc2 := 7) (x := Int32.ofNat 0) d_Se_shapeError_6 rfl rfl ?_
  refine b_cv1 (pc2 := 10) (c2 := 0) (u2 := 0) (rw_at (k := 0) (by omega) hSR R_57 (by decide)) d_Se_shapeError_7 q_8_84 (Nat.le_of_ble_eq_true rfl) rfl rfl (sh_57 n0) (Nat.le_of_ble_eq_true rfl) rfl rfl (by decide) (by decide) rfl ?_
  rw [ho]
  refine b_sw (pc2 := 116) (off := 106) d_Se_shapeError_10 rfl rfl rfl (rfl) rfl ?_
  refine b_iln (pc2 := 117) d_Se_shapeError_116 rfl rfl ?_
  refine b_ic (pc2 := 118) (x := Int32.ofNat 2) d_Se_shapeError_117 rfl rfl ?_
  refine b_ifd (pc2 := 125) d_Se_shapeError_118 rfl rfl rfl rfl rfl (fun h118 => ?_) (fun h118 => ?_)
  · refine b_ic (pc2 := 126) (x := Int32.ofNat 0) d_Se_shapeError_125 rfl rfl ?_
    refine b_isn (pc2 := 127) (al2 := [(2, _), (1, _), (0, _)]) d_Se_shapeError_126 (by decide) rfl rfl ?_
    refine b_go (pc2 := 198) d_Se_shapeError_127 rfl ?_
    refine b_iln (pc2 := 199) d_Se_shapeError_198 rfl rfl ?_
    refine b_ifd (pc2 := 206) d_Se_shapeError_199 rfl rfl rfl rfl rfl (fun h199 => ?_) (fun h199 => ?_)
    rotate_left
    · exact absurd (by decide) h199
    refine b_ic (pc2 := 207) (x := Int32.ofNat 4) d_Se_shapeError_206 rfl rfl ?_
    refine b_ir d_Se_shapeError_207 rfl ?_
    rw [i_eq (by omega) (by decide)] at h118
    exact ⟨by rw [if_neg (h118)], rfl, rfl, rfl, rfl⟩
  · refine b_ic (pc2 := 122) (x := Int32.ofNat 1) d_Se_shapeError_121 rfl rfl ?_
    refine b_go (pc2 := 126) d_Se_shapeError_122 rfl ?_
    refine b_isn (pc2 := 127) (al2 := [(2, _), (1, _), (0, _)]) d_Se_shapeError_126 (by decide) rfl rfl ?_
    refine b_go (pc2 := 198) d_Se_shapeError_127 rfl ?_
    refine b_iln (pc2 := 199) d_Se_shapeError_198 rfl rfl ?_
    refine b_ifd (pc2 := 206) d_Se_shapeError_199 rfl rfl rfl rfl rfl (fun h199 => ?_) (fun h199 => ?_)
    · exact absurd h199 (by decide)
    refine b_ic (pc2 := 203) (x := Int32.ofNat 0) d_Se_shapeError_202 rfl rfl ?_
    refine b_go (pc2 := 207) d_Se_shapeError_203 rfl ?_
    refine b_ir d_Se_shapeError_207 rfl ?_
    rw [i_eq (by omega) (by decide)] at h118
    exact ⟨by rw [if_pos (Decidable.not_not.mp h118)], rfl, rfl, rfl, rfl⟩
theorem se_shape12 {d : Nat} (hd : 2 ≤ d) (ho : (W 57).getD 0 0 = Int32.ofNat 12) : bm d (S0 n0) R0 78 [.ref 57] W J g L (bR (some (.int (Int32.ofNat (if (W 57).length = 3 then 0 else 4)))) W J g L) := by
  obtain ⟨e, rfl⟩ : ∃ e, d = e + 1 := ⟨d - 1, by omega⟩
  refine bm_of (Nat.le_of_ble_eq_true rfl) (Or.inr bR_ret) ?_
  show bT e (S0 n0) R0 mt_Se_shapeError _ 0 [(0, .ref 57)] [] W J g L 0 0
  have hSR := SR0 n0
  refine b_free fun hlen => ?_
  have hl := hlen 57 20 R_57
  refine b_aln (pc2 := 1) d_Se_shapeError_0 rfl rfl ?_
  refine b_cv1 (pc2 := 4) (c2 := 0) (u2 := 0) (rw_length (by omega) hSR R_57) d_Se_shapeError_1 q_8_80 (Nat.le_of_ble_eq_true rfl) rfl rfl (sh_57 n0) (Nat.le_of_ble_eq_true rfl) rfl rfl (by decide) (by decide) rfl ?_
  refine b_isn (pc2 := 5) (al2 := [(1, _), (0, _)]) d_Se_shapeError_4 (by decide) rfl rfl ?_
  refine b_aln (pc2 := 6) d_Se_shapeError_5 rfl rfl ?_
  refine b_ic (pc2 := 7) (x := Int32.ofNat 0) d_Se_shapeError_6 rfl rfl ?_
  refine b_cv1 (pc2 := 10) (c2 := 0) (u2 := 0) (rw_at (k := 0) (by omega) hSR R_57 (by decide)) d_Se_shapeError_7 q_8_84 (Nat.le_of_ble_eq_true rfl) rfl rfl (sh_57 n0) (Nat.le_of_ble_eq_true rfl) rfl rfl (by decide) (by decide) rfl ?_
  rw [ho]
  refine b_sw (pc2 := 130) (off := 120) d_Se_shapeError_10 rfl rfl rfl (rfl) rfl ?_
  refine b_iln (pc2 := 131) d_Se_shapeError_130 rfl rfl ?_
  refine b_ic (pc2 := 132) (x := Int32.ofNat 3) d_Se_shapeError_131 rfl rfl ?_
  refine b_ifd (pc2 := 139) d_Se_shapeError_132 rfl rfl rfl rfl rfl (fun h132 => ?_) (fun h132 => ?_)
  · refine b_ic (pc2 := 140) (x := Int32.ofNat 0) d_Se_shapeError_139 rfl rfl ?_
    refine b_isn (pc2 := 141) (al2 := [(2, _), (1, _), (0, _)]) d_Se_shapeError_140 (by decide) rfl rfl ?_
    refine b_go (pc2 := 198) d_Se_shapeError_141 rfl ?_
    refine b_iln (pc2 := 199) d_Se_shapeError_198 rfl rfl ?_
    refine b_ifd (pc2 := 206) d_Se_shapeError_199 rfl rfl rfl rfl rfl (fun h199 => ?_) (fun h199 => ?_)
    rotate_left
    · exact absurd (by decide) h199
    refine b_ic (pc2 := 207) (x := Int32.ofNat 4) d_Se_shapeError_206 rfl rfl ?_
    refine b_ir d_Se_shapeError_207 rfl ?_
    rw [i_eq (by omega) (by decide)] at h132
    exact ⟨by rw [if_neg (h132)], rfl, rfl, rfl, rfl⟩
  · refine b_ic (pc2 := 136) (x := Int32.ofNat 1) d_Se_shapeError_135 rfl rfl ?_
    refine b_go (pc2 := 140) d_Se_shapeError_136 rfl ?_
    refine b_isn (pc2 := 141) (al2 := [(2, _), (1, _), (0, _)]) d_Se_shapeError_140 (by decide) rfl rfl ?_
    refine b_go (pc2 := 198) d_Se_shapeError_141 rfl ?_
    refine b_iln (pc2 := 199) d_Se_shapeError_198 rfl rfl ?_
    refine b_ifd (pc2 := 206) d_Se_shapeError_199 rfl rfl rfl rfl rfl (fun h199 => ?_) (fun h199 => ?_)
    · exact absurd h199 (by decide)
    refine b_ic (pc2 := 203) (x := Int32.ofNat 0) d_Se_shapeError_202 rfl rfl ?_
    refine b_go (pc2 := 207) d_Se_shapeError_203 rfl ?_
    refine b_ir d_Se_shapeError_207 rfl ?_
    rw [i_eq (by omega) (by decide)] at h132
    exact ⟨by rw [if_pos (Decidable.not_not.mp h132)], rfl, rfl, rfl, rfl⟩
theorem se_shape16 {d : Nat} (hd : 2 ≤ d) (ho : (W 57).getD 0 0 = Int32.ofNat 16) : bm d (S0 n0) R0 78 [.ref 57] W J g L (bR (some (.int (Int32.ofNat (if (W 57).length = 3 then 0 else 4)))) W J g L) := by
  obtain ⟨e, rfl⟩ : ∃ e, d = e + 1 := ⟨d - 1, by omega⟩
  refine bm_of (Nat.le_of_ble_eq_true rfl) (Or.inr bR_ret) ?_
  show bT e (S0 n0) R0 mt_Se_shapeError _ 0 [(0, .ref 57)] [] W J g L 0 0
  have hSR := SR0 n0
  refine b_free fun hlen => ?_
  have hl := hlen 57 20 R_57
  refine b_aln (pc2 := 1) d_Se_shapeError_0 rfl rfl ?_
  refine b_cv1 (pc2 := 4) (c2 := 0) (u2 := 0) (rw_length (by omega) hSR R_57) d_Se_shapeError_1 q_8_80 (Nat.le_of_ble_eq_true rfl) rfl rfl (sh_57 n0) (Nat.le_of_ble_eq_true rfl) rfl rfl (by decide) (by decide) rfl ?_
  refine b_isn (pc2 := 5) (al2 := [(1, _), (0, _)]) d_Se_shapeError_4 (by decide) rfl rfl ?_
  refine b_aln (pc2 := 6) d_Se_shapeError_5 rfl rfl ?_
  refine b_ic (pc2 := 7) (x := Int32.ofNat 0) d_Se_shapeError_6 rfl rfl ?_
  refine b_cv1 (pc2 := 10) (c2 := 0) (u2 := 0) (rw_at (k := 0) (by omega) hSR R_57 (by decide)) d_Se_shapeError_7 q_8_84 (Nat.le_of_ble_eq_true rfl) rfl rfl (sh_57 n0) (Nat.le_of_ble_eq_true rfl) rfl rfl (by decide) (by decide) rfl ?_
  rw [ho]
  refine b_sw (pc2 := 130) (off := 120) d_Se_shapeError_10 rfl rfl rfl (rfl) rfl ?_
  refine b_iln (pc2 := 131) d_Se_shapeError_130 rfl rfl ?_
  refine b_ic (pc2 := 132) (x := Int32.ofNat 3) d_Se_shapeError_131 rfl rfl ?_
  refine b_ifd (pc2 := 139) d_Se_shapeError_132 rfl rfl rfl rfl rfl (fun h132 => ?_) (fun h132 => ?_)
  · refine b_ic (pc2 := 140) (x := Int32.ofNat 0) d_Se_shapeError_139 rfl rfl ?_
    refine b_isn (pc2 := 141) (al2 := [(2, _), (1, _), (0, _)]) d_Se_shapeError_140 (by decide) rfl rfl ?_
    refine b_go (pc2 := 198) d_Se_shapeError_141 rfl ?_
    refine b_iln (pc2 := 199) d_Se_shapeError_198 rfl rfl ?_
    refine b_ifd (pc2 := 206) d_Se_shapeError_199 rfl rfl rfl rfl rfl (fun h199 => ?_) (fun h199 => ?_)
    rotate_left
    · exact absurd (by decide) h199
    refine b_ic (pc2 := 207) (x := Int32.ofNat 4) d_Se_shapeError_206 rfl rfl ?_
    refine b_ir d_Se_shapeError_207 rfl ?_
    rw [i_eq (by omega) (by decide)] at h132
    exact ⟨by rw [if_neg (h132)], rfl, rfl, rfl, rfl⟩
  · refine b_ic (pc2 := 136) (x := Int32.ofNat 1) d_Se_shapeError_135 rfl rfl ?_
    refine b_go (pc2 := 140) d_Se_shapeError_136 rfl ?_
    refine b_isn (pc2 := 141) (al2 := [(2, _), (1, _), (0, _)]) d_Se_shapeError_140 (by decide) rfl rfl ?_
    refine b_go (pc2 := 198) d_Se_shapeError_141 rfl ?_
    refine b_iln (pc2 := 199) d_Se_shapeError_198 rfl rfl ?_
    refine b_ifd (pc2 := 206) d_Se_shapeError_199 rfl rfl rfl rfl rfl (fun h199 => ?_) (fun h199 => ?_)
    · exact absurd h199 (by decide)
    refine b_ic (pc2 := 203) (x := Int32.ofNat 0) d_Se_shapeError_202 rfl rfl ?_
    refine b_go (pc2 := 207) d_Se_shapeError_203 rfl ?_
    refine b_ir d_Se_shapeError_207 rfl ?_
    rw [i_eq (by omega) (by decide)] at h132
    exact ⟨by rw [if_pos (Decidable.not_not.mp h132)], rfl, rfl, rfl, rfl⟩
theorem se_shape18 {d : Nat} (hd : 2 ≤ d) (ho : (W 57).getD 0 0 = Int32.ofNat 18) : bm d (S0 n0) R0 78 [.ref 57] W J g L (bR (some (.int (Int32.ofNat (if 2 ≤ (W 57).length then 0 else 4)))) W J g L) := by
  obtain ⟨e, rfl⟩ : ∃ e, d = e + 1 := ⟨d - 1, by omega⟩
  refine bm_of (Nat.le_of_ble_eq_true rfl) (Or.inr bR_ret) ?_
  show bT e (S0 n0) R0 mt_Se_shapeError _ 0 [(0, .ref 57)] [] W J g L 0 0
  have hSR := SR0 n0
  refine b_free fun hlen => ?_
  have hl := hlen 57 20 R_57
  refine b_aln (pc2 := 1) d_Se_shapeError_0 rfl rfl ?_
  refine b_cv1 (pc2 := 4) (c2 := 0) (u2 := 0) (rw_length (by omega) hSR R_57) d_Se_shapeError_1 q_8_80 (Nat.le_of_ble_eq_true rfl) rfl rfl (sh_57 n0) (Nat.le_of_ble_eq_true rfl) rfl rfl (by decide) (by decide) rfl ?_
  refine b_isn (pc2 := 5) (al2 := [(1, _), (0, _)]) d_Se_shapeError_4 (by decide) rfl rfl ?_
  refine b_aln (pc2 := 6) d_Se_shapeError_5 rfl rfl ?_
  refine b_ic (pc2 := 7) (x := Int32.ofNat 0) d_Se_shapeError_6 rfl rfl ?_
  refine b_cv1 (pc2 := 10) (c2 := 0) (u2 := 0) (rw_at (k := 0) (by omega) hSR R_57 (by decide)) d_Se_shapeError_7 q_8_84 (Nat.le_of_ble_eq_true rfl) rfl rfl (sh_57 n0) (Nat.le_of_ble_eq_true rfl) rfl rfl (by decide) (by decide) rfl ?_
  rw [ho]
  refine b_sw (pc2 := 144) (off := 134) d_Se_shapeError_10 rfl rfl rfl (rfl) rfl ?_
  refine b_iln (pc2 := 145) d_Se_shapeError_144 rfl rfl ?_
  refine b_ic (pc2 := 146) (x := Int32.ofNat 2) d_Se_shapeError_145 rfl rfl ?_
  refine b_ifd (pc2 := 153) d_Se_shapeError_146 rfl rfl rfl rfl rfl (fun h146 => ?_) (fun h146 => ?_)
  · refine b_ic (pc2 := 154) (x := Int32.ofNat 0) d_Se_shapeError_153 rfl rfl ?_
    refine b_isn (pc2 := 155) (al2 := [(2, _), (1, _), (0, _)]) d_Se_shapeError_154 (by decide) rfl rfl ?_
    refine b_go (pc2 := 198) d_Se_shapeError_155 rfl ?_
    refine b_iln (pc2 := 199) d_Se_shapeError_198 rfl rfl ?_
    refine b_ifd (pc2 := 206) d_Se_shapeError_199 rfl rfl rfl rfl rfl (fun h199 => ?_) (fun h199 => ?_)
    rotate_left
    · exact absurd (by decide) h199
    refine b_ic (pc2 := 207) (x := Int32.ofNat 4) d_Se_shapeError_206 rfl rfl ?_
    refine b_ir d_Se_shapeError_207 rfl ?_
    rw [i_lt (by omega) (by decide)] at h146
    exact ⟨by rw [if_neg (by omega)], rfl, rfl, rfl, rfl⟩
  · refine b_ic (pc2 := 150) (x := Int32.ofNat 1) d_Se_shapeError_149 rfl rfl ?_
    refine b_go (pc2 := 154) d_Se_shapeError_150 rfl ?_
    refine b_isn (pc2 := 155) (al2 := [(2, _), (1, _), (0, _)]) d_Se_shapeError_154 (by decide) rfl rfl ?_
    refine b_go (pc2 := 198) d_Se_shapeError_155 rfl ?_
    refine b_iln (pc2 := 199) d_Se_shapeError_198 rfl rfl ?_
    refine b_ifd (pc2 := 206) d_Se_shapeError_199 rfl rfl rfl rfl rfl (fun h199 => ?_) (fun h199 => ?_)
    · exact absurd h199 (by decide)
    refine b_ic (pc2 := 203) (x := Int32.ofNat 0) d_Se_shapeError_202 rfl rfl ?_
    refine b_go (pc2 := 207) d_Se_shapeError_203 rfl ?_
    refine b_ir d_Se_shapeError_207 rfl ?_
    rw [i_lt (by omega) (by decide)] at h146
    exact ⟨by rw [if_pos (by omega)], rfl, rfl, rfl, rfl⟩
theorem se_shape22 {d : Nat} (hd : 2 ≤ d) (ho : (W 57).getD 0 0 = Int32.ofNat 22) : bm d (S0 n0) R0 78 [.ref 57] W J g L (bR (some (.int (Int32.ofNat (if 3 ≤ (W 57).length then 0 else 4)))) W J g L) := by
  obtain ⟨e, rfl⟩ : ∃ e, d = e + 1 := ⟨d - 1, by omega⟩
  refine bm_of (Nat.le_of_ble_eq_true rfl) (Or.inr bR_ret) ?_
  show bT e (S0 n0) R0 mt_Se_shapeError _ 0 [(0, .ref 57)] [] W J g L 0 0
  have hSR := SR0 n0
  refine b_free fun hlen => ?_
  have hl := hlen 57 20 R_57
  refine b_aln (pc2 := 1) d_Se_shapeError_0 rfl rfl ?_
  refine b_cv1 (pc2 := 4) (c2 := 0) (u2 := 0) (rw_length (by omega) hSR R_57) d_Se_shapeError_1 q_8_80 (Nat.le_of_ble_eq_true rfl) rfl rfl (sh_57 n0) (Nat.le_of_ble_eq_true rfl) rfl rfl (by decide) (by decide) rfl ?_
  refine b_isn (pc2 := 5) (al2 := [(1, _), (0, _)]) d_Se_shapeError_4 (by decide) rfl rfl ?_
  refine b_aln (pc2 := 6) d_Se_shapeError_5 rfl rfl ?_
  refine b_ic (pc2 := 7) (x := Int32.ofNat 0) d_Se_shapeError_6 rfl rfl ?_
  refine b_cv1 (pc2 := 10) (c2 := 0) (u2 := 0) (rw_at (k := 0) (by omega) hSR R_57 (by decide)) d_Se_shapeError_7 q_8_84 (Nat.le_of_ble_eq_true rfl) rfl rfl (sh_57 n0) (Nat.le_of_ble_eq_true rfl) rfl rfl (by decide) (by decide) rfl ?_
  rw [ho]
  refine b_sw (pc2 := 158) (off := 148) d_Se_shapeError_10 rfl rfl rfl (rfl) rfl ?_
  refine b_iln (pc2 := 159) d_Se_shapeError_158 rfl rfl ?_
  refine b_ic (pc2 := 160) (x := Int32.ofNat 3) d_Se_shapeError_159 rfl rfl ?_
  refine b_ifd (pc2 := 167) d_Se_shapeError_160 rfl rfl rfl rfl rfl (fun h160 => ?_) (fun h160 => ?_)
  · refine b_ic (pc2 := 168) (x := Int32.ofNat 0) d_Se_shapeError_167 rfl rfl ?_
    refine b_isn (pc2 := 169) (al2 := [(2, _), (1, _), (0, _)]) d_Se_shapeError_168 (by decide) rfl rfl ?_
    refine b_go (pc2 := 198) d_Se_shapeError_169 rfl ?_
    refine b_iln (pc2 := 199) d_Se_shapeError_198 rfl rfl ?_
    refine b_ifd (pc2 := 206) d_Se_shapeError_199 rfl rfl rfl rfl rfl (fun h199 => ?_) (fun h199 => ?_)
    rotate_left
    · exact absurd (by decide) h199
    refine b_ic (pc2 := 207) (x := Int32.ofNat 4) d_Se_shapeError_206 rfl rfl ?_
    refine b_ir d_Se_shapeError_207 rfl ?_
    rw [i_lt (by omega) (by decide)] at h160
    exact ⟨by rw [if_neg (by omega)], rfl, rfl, rfl, rfl⟩
  · refine b_ic (pc2 := 164) (x := Int32.ofNat 1) d_Se_shapeError_163 rfl rfl ?_
    refine b_go (pc2 := 168) d_Se_shapeError_164 rfl ?_
    refine b_isn (pc2 := 169) (al2 := [(2, _), (1, _), (0, _)]) d_Se_shapeError_168 (by decide) rfl rfl ?_
    refine b_go (pc2 := 198) d_Se_shapeError_169 rfl ?_
    refine b_iln (pc2 := 199) d_Se_shapeError_198 rfl rfl ?_
    refine b_ifd (pc2 := 206) d_Se_shapeError_199 rfl rfl rfl rfl rfl (fun h199 => ?_) (fun h199 => ?_)
    · exact absurd h199 (by decide)
    refine b_ic (pc2 := 203) (x := Int32.ofNat 0) d_Se_shapeError_202 rfl rfl ?_
    refine b_go (pc2 := 207) d_Se_shapeError_203 rfl ?_
    refine b_ir d_Se_shapeError_207 rfl ?_
    rw [i_lt (by omega) (by decide)] at h160
    exact ⟨by rw [if_pos (by omega)], rfl, rfl, rfl, rfl⟩
theorem se_shape24 {d : Nat} (hd : 2 ≤ d) (ho : (W 57).getD 0 0 = Int32.ofNat 24) {b1 : Nat} (hb : (W 57).getD 1 0 = Int32.ofNat b1) (hb2 : b1 < 256) : bm d (S0 n0) R0 78 [.ref 57] W J g L (bR (some (.int (Int32.ofNat (if (W 57).length = 2 ∧ b1 ≤ 1 then 0 else 4)))) W J g L) := by
  obtain ⟨e, rfl⟩ : ∃ e, d = e + 1 := ⟨d - 1, by omega⟩
  refine bm_of (Nat.le_of_ble_eq_true rfl) (Or.inr bR_ret) ?_
  show bT e (S0 n0) R0 mt_Se_shapeError _ 0 [(0, .ref 57)] [] W J g L 0 0
  have hSR := SR0 n0
  refine b_free fun hlen => ?_
  have hl := hlen 57 20 R_57
  refine b_aln (pc2 := 1) d_Se_shapeError_0 rfl rfl ?_
  refine b_cv1 (pc2 := 4) (c2 := 0) (u2 := 0) (rw_length (by omega) hSR R_57) d_Se_shapeError_1 q_8_80 (Nat.le_of_ble_eq_true rfl) rfl rfl (sh_57 n0) (Nat.le_of_ble_eq_true rfl) rfl rfl (by decide) (by decide) rfl ?_
  refine b_isn (pc2 := 5) (al2 := [(1, _), (0, _)]) d_Se_shapeError_4 (by decide) rfl rfl ?_
  refine b_aln (pc2 := 6) d_Se_shapeError_5 rfl rfl ?_
  refine b_ic (pc2 := 7) (x := Int32.ofNat 0) d_Se_shapeError_6 rfl rfl ?_
  refine b_cv1 (pc2 := 10) (c2 := 0) (u2 := 0) (rw_at (k := 0) (by omega) hSR R_57 (by decide)) d_Se_shapeError_7 q_8_84 (Nat.le_of_ble_eq_true rfl) rfl rfl (sh_57 n0) (Nat.le_of_ble_eq_true rfl) rfl rfl (by decide) (by decide) rfl ?_
  rw [ho]
  refine b_sw (pc2 := 172) (off := 162) d_Se_shapeError_10 rfl rfl rfl (rfl) rfl ?_
  refine b_iln (pc2 := 173) d_Se_shapeError_172 rfl rfl ?_
  refine b_ic (pc2 := 174) (x := Int32.ofNat 2) d_Se_shapeError_173 rfl rfl ?_
  refine b_ifd (pc2 := 190) d_Se_shapeError_174 rfl rfl rfl rfl rfl (fun h174 => ?_) (fun h174 => ?_)
  · refine b_ic (pc2 := 191) (x := Int32.ofNat 0) d_Se_shapeError_190 rfl rfl ?_
    refine b_isn (pc2 := 192) (al2 := [(2, _), (1, _), (0, _)]) d_Se_shapeError_191 (by decide) rfl rfl ?_
    refine b_go (pc2 := 198) d_Se_shapeError_192 rfl ?_
    refine b_iln (pc2 := 199) d_Se_shapeError_198 rfl rfl ?_
    refine b_ifd (pc2 := 206) d_Se_shapeError_199 rfl rfl rfl rfl rfl (fun h199 => ?_) (fun h199 => ?_)
    rotate_left
    · exact absurd (by decide) h199
    refine b_ic (pc2 := 207) (x := Int32.ofNat 4) d_Se_shapeError_206 rfl rfl ?_
    refine b_ir d_Se_shapeError_207 rfl ?_
    rw [i_eq (by omega) (by decide)] at h174
    exact ⟨by rw [if_neg (fun z => h174 z.1)], rfl, rfl, rfl, rfl⟩
  · refine b_aln (pc2 := 178) d_Se_shapeError_177 rfl rfl ?_
    refine b_ic (pc2 := 179) (x := Int32.ofNat 1) d_Se_shapeError_178 rfl rfl ?_
    refine b_cv1 (pc2 := 182) (c2 := 0) (u2 := 0) (rw_at (k := 1) (by omega) hSR R_57 (by decide)) d_Se_shapeError_179 q_8_84 (Nat.le_of_ble_eq_true rfl) rfl rfl (sh_57 n0) (Nat.le_of_ble_eq_true rfl) rfl rfl (by decide) (by decide) rfl ?_
    rw [hb]
    refine b_ic (pc2 := 183) (x := Int32.ofNat 1) d_Se_shapeError_182 rfl rfl ?_
    refine b_ifd (pc2 := 190) d_Se_shapeError_183 rfl rfl rfl rfl rfl (fun h183 => ?_) (fun h183 => ?_)
    · refine b_ic (pc2 := 191) (x := Int32.ofNat 0) d_Se_shapeError_190 rfl rfl ?_
      refine b_isn (pc2 := 192) (al2 := [(2, _), (1, _), (0, _)]) d_Se_shapeError_191 (by decide) rfl rfl ?_
      refine b_go (pc2 := 198) d_Se_shapeError_192 rfl ?_
      refine b_iln (pc2 := 199) d_Se_shapeError_198 rfl rfl ?_
      refine b_ifd (pc2 := 206) d_Se_shapeError_199 rfl rfl rfl rfl rfl (fun h199 => ?_) (fun h199 => ?_)
      rotate_left
      · exact absurd (by decide) h199
      refine b_ic (pc2 := 207) (x := Int32.ofNat 4) d_Se_shapeError_206 rfl rfl ?_
      refine b_ir d_Se_shapeError_207 rfl ?_
      rw [i_lt (by decide) (by omega)] at h183
      exact ⟨by rw [if_neg (fun z => by omega)], rfl, rfl, rfl, rfl⟩
    · refine b_ic (pc2 := 187) (x := Int32.ofNat 1) d_Se_shapeError_186 rfl rfl ?_
      refine b_go (pc2 := 191) d_Se_shapeError_187 rfl ?_
      refine b_isn (pc2 := 192) (al2 := [(2, _), (1, _), (0, _)]) d_Se_shapeError_191 (by decide) rfl rfl ?_
      refine b_go (pc2 := 198) d_Se_shapeError_192 rfl ?_
      refine b_iln (pc2 := 199) d_Se_shapeError_198 rfl rfl ?_
      refine b_ifd (pc2 := 206) d_Se_shapeError_199 rfl rfl rfl rfl rfl (fun h199 => ?_) (fun h199 => ?_)
      · exact absurd h199 (by decide)
      refine b_ic (pc2 := 203) (x := Int32.ofNat 0) d_Se_shapeError_202 rfl rfl ?_
      refine b_go (pc2 := 207) d_Se_shapeError_203 rfl ?_
      refine b_ir d_Se_shapeError_207 rfl ?_
      rw [i_eq (by omega) (by decide)] at h174
      rw [i_lt (by decide) (by omega)] at h183
      exact ⟨by rw [if_pos (⟨Decidable.not_not.mp h174, by omega⟩)], rfl, rfl, rfl, rfl⟩
theorem sw_shape {op : Nat} (h : op < 256) (hn : ¬ (op = 2 ∨ op = 10 ∨ op = 12 ∨ op = 16 ∨ op = 18 ∨ op = 22 ∨ op = 24)) : am_sw (Instr.tableswitch 185 2 24 #[106, 185, 185, 185, 185, 185, 185, 185, 106, 185, 120, 185, 185, 185, 120, 185, 134, 185, 185, 185, 148, 185, 162]) [.int (Int32.ofNat op)] = some (185, []) := by
  have : ∀ m : Fin 256, ¬ (m.val = 2 ∨ m.val = 10 ∨ m.val = 12 ∨ m.val = 16 ∨ m.val = 18 ∨ m.val = 22 ∨ m.val = 24) → am_sw (Instr.tableswitch 185 2 24 #[106, 185, 185, 185, 185, 185, 185, 185, 106, 185, 120, 185, 185, 185, 120, 185, 134, 185, 185, 185, 148, 185, 162]) [.int (Int32.ofNat m.val)] = some (185, []) := by decide +kernel
  exact this ⟨op, h⟩ hn
theorem se_shape0 {d : Nat} (hd : 2 ≤ d) {op : Nat} (ho : (W 57).getD 0 0 = Int32.ofNat op) (ho2 : op < 256) (hn : ¬ (op = 2 ∨ op = 10 ∨ op = 12 ∨ op = 16 ∨ op = 18 ∨ op = 22 ∨ op = 24)) : bm d (S0 n0) R0 78 [.ref 57] W J g L (bR (some (.int (Int32.ofNat 6))) W J g L) := by
  obtain ⟨e, rfl⟩ : ∃ e, d = e + 1 := ⟨d - 1, by omega⟩
  refine bm_of (Nat.le_of_ble_eq_true rfl) (Or.inr bR_ret) ?_
  show bT e (S0 n0) R0 mt_Se_shapeError _ 0 [(0, .ref 57)] [] W J g L 0 0
  have hSR := SR0 n0
  refine b_free fun hlen => ?_
  have hl := hlen 57 20 R_57
  refine b_aln (pc2 := 1) d_Se_shapeError_0 rfl rfl ?_
  refine b_cv1 (pc2 := 4) (c2 := 0) (u2 := 0) (rw_length (by omega) hSR R_57) d_Se_shapeError_1 q_8_80 (Nat.le_of_ble_eq_true rfl) rfl rfl (sh_57 n0) (Nat.le_of_ble_eq_true rfl) rfl rfl (by decide) (by decide) rfl ?_
  refine b_isn (pc2 := 5) (al2 := [(1, _), (0, _)]) d_Se_shapeError_4 (by decide) rfl rfl ?_
  refine b_aln (pc2 := 6) d_Se_shapeError_5 rfl rfl ?_
  refine b_ic (pc2 := 7) (x := Int32.ofNat 0) d_Se_shapeError_6 rfl rfl ?_
  refine b_cv1 (pc2 := 10) (c2 := 0) (u2 := 0) (rw_at (k := 0) (by omega) hSR R_57 (by decide)) d_Se_shapeError_7 q_8_84 (Nat.le_of_ble_eq_true rfl) rfl rfl (sh_57 n0) (Nat.le_of_ble_eq_true rfl) rfl rfl (by decide) (by decide) rfl ?_
  rw [ho]
  refine b_sw (pc2 := 195) (off := 185) d_Se_shapeError_10 rfl rfl rfl (sw_shape ho2 hn) rfl ?_
  refine b_bp (pc2 := 197) (x := Int32.ofNat 6) d_Se_shapeError_195 rfl rfl ?_
  refine b_ir d_Se_shapeError_197 rfl ?_
  exact ⟨rfl, rfl, rfl, rfl, rfl⟩
end SH
/-- the bytes of part k: handle less one, place, how many -/
def ps (W : bw_W) (k : Nat) : Nat := ((W (119 + 2 * k)).getD 0 0).toNatClampNeg - 1
def pp (W : bw_W) (k : Nat) : Nat := ((W (119 + 2 * k)).getD 1 0).toNatClampNeg
def p_ok (W : bw_W) (k : Nat) : Prop := (W (119 + 2 * k)).getD 0 0 = Int32.ofNat (ps W k + 1) ∧ ps W k < 10 ∧ (W (119 + 2 * k)).getD 1 0 = Int32.ofNat (pp W k) ∧ pp W k < 256 ∧ 2 ≤ (W (119 + 2 * k)).length
def pe (W : bw_W) (k : Nat) : Nat := pp W k + (W (119 + 2 * k)).length - 2
def plan (W : bw_W) : Nat → Nat → (Nat → Int32) → Nat × (Nat → Int32)
  | 0, _, p => (0, p)
  | r + 1, k, p => if p (ps W k) < Int32.ofNat (pp W k) then (7, p) else if 16 < pe W k then (13, p) else plan W r (k + 1) (am_u1 p (ps W k) (if p (ps W k) < Int32.ofNat (pe W k) then Int32.ofNat (pe W k) else p (ps W k)))
def pl1 (W : bw_W) (J : bw_J) (k : Nat) : Nat → Int32 := fun q => if q < k then Int32.ofNat (W (89 + 3 * q)).length else J 127 q
theorem u21 {α : Type} (f : Nat → Nat → α) (a k : Nat) (p : Nat → α) (x : α) : am_u2 (am_u1 f a p) a k x = am_u1 f a (am_u1 p k x) := by
  funext b j
  unfold am_u2 am_u1
  by_cases h : b = a
  · rw [if_pos h, if_pos h]
    by_cases q : j = k
    · rw [if_pos q, if_pos q]
    · rw [if_neg q, if_neg q, if_pos rfl]
  · rw [if_neg h, if_neg h, if_neg h]
theorem pl1_step (W : bw_W) (J : bw_J) (k : Nat) : am_u1 (pl1 W J k) k (Int32.ofNat (W (89 + 3 * k)).length) = pl1 W J (k + 1) := by
  funext q
  unfold am_u1 pl1
  by_cases h : q = k
  · rw [if_pos h, if_pos (by omega), h]
  · rw [if_neg h]
    by_cases h2 : q < k
    · rw [if_pos h2, if_pos (by omega)]
    · rw [if_neg h2, if_neg (by omega)]
theorem pl1_0 (W : bw_W) (J : bw_J) : pl1 W J 0 = J 127 := funext fun q => if_neg (by omega)
section PL
variable {n0 : Nat} {W : bw_W} {J : bw_J} {g : Nat} {L : bw_L}
theorem lp_pl2 {e : Nat} (he : 1 ≤ e) {pn : Nat} (hp : J 86 3 = Int32.ofNat pn) (hpn : pn ≤ 4) (hl : ∀ a N, R0 a = some N → (W a).length ≤ N) (hok : ∀ k, k < pn → p_ok W k) : ∀ (r k : Nat) (p : Nat → Int32), k + r = pn → bT e (S0 n0) R0 mt_Se_planParts (bR (some (.int (Int32.ofNat (plan W r k p).1))) W (am_u1 J 127 (plan W r k p).2) g L) 36 [(1, .int (Int32.ofNat k)), (0, .ref 86)] [] W (am_u1 J 127 p) g L 0 0 := by
  have hSR := SR0 n0
  intro r
  induction r with
  | zero =>
    intro k p hk
    refine b_iln (pc2 := 37) d_Se_planParts_36 rfl rfl ?_
    refine b_aln (pc2 := 38) d_Se_planParts_37 rfl rfl ?_
    refine b_gi (pc2 := 41) d_Se_planParts_38 q_8_31 (sh_86 n0) (by decide) (by decide) (rc_86) rfl ?_
    rw [u1_ne _ _ (by decide), hp]
    refine b_ifd (pc2 := 129) d_Se_planParts_41 rfl rfl rfl rfl rfl (fun h41 => ?_) (fun h41 => ?_)
    rotate_left
    · exact absurd ((i_le (by omega) (by omega)).mpr (by omega)) h41
    refine b_ic (pc2 := 130) (x := Int32.ofNat 0) d_Se_planParts_129 rfl rfl ?_
    refine b_ir d_Se_planParts_130 rfl ?_
    exact ⟨rfl, rfl, rfl, rfl, rfl⟩
  | succ r ih =>
    intro k p hk
    obtain ⟨q1, q2, q3, q4, q5⟩ := hok k (by omega)
    have hk4 : k < 4 := by omega
    have hq := hl _ 20 (pt_R hk4)
    have hpe : pp W k + (W (119 + 2 * k)).length - 2 = pe W k := rfl
    unfold plan
    refine b_iln (pc2 := 37) d_Se_planParts_36 rfl rfl ?_
    refine b_aln (pc2 := 38) d_Se_planParts_37 rfl rfl ?_
    refine b_gi (pc2 := 41) d_Se_planParts_38 q_8_31 (sh_86 n0) (by decide) (by decide) (rc_86) rfl ?_
    rw [u1_ne _ _ (by decide), hp]
    refine b_ifd (pc2 := 129) d_Se_planParts_41 rfl rfl rfl rfl rfl (fun h41 => ?_) (fun h41 => ?_)
    · exact absurd h41 (fun z => by rw [i_le (by omega) (by omega)] at z; omega)
    refine b_aln (pc2 := 45) d_Se_planParts_44 rfl rfl ?_
    refine b_gr (pc2 := 48) d_Se_planParts_45 q_8_24 (sh_86 n0) (by decide) (by decide) (p_86_2 n0) rfl ?_
    refine b_iln (pc2 := 49) d_Se_planParts_48 rfl rfl ?_
    refine b_aa (pc2 := 50) (q := k) d_Se_planParts_49 (sh_118 n0) (Or.inl rfl) (i_in hk4 (by decide)) (i_tn (by omega)) (pt_P n0 hk4) rfl ?_
    refine b_ic (pc2 := 51) (x := Int32.ofNat 0) d_Se_planParts_50 rfl rfl ?_
    refine b_cv1 (pc2 := 54) (c2 := 0) (u2 := 0) (rw_at (k := 0) he hSR (pt_R hk4) (by decide)) d_Se_planParts_51 q_8_84 (Nat.le_of_ble_eq_true rfl) rfl rfl (pt_H n0 hk4) (Nat.le_of_ble_eq_true rfl) rfl rfl (by decide) (by decide) rfl ?_
    rw [q1]
    refine b_ic (pc2 := 55) (x := Int32.ofNat 1) d_Se_planParts_54 rfl rfl ?_
    refine b_pure (pc2 := 56) d_Se_planParts_55 rfl rfl rfl ?_
    rw [i_sub (by omega), show ps W k + 1 - 1 = ps W k by omega]
    refine b_isn (pc2 := 57) (al2 := [(2, _), (1, _), (0, _)]) d_Se_planParts_56 (by decide) rfl rfl ?_
    refine b_aln (pc2 := 58) d_Se_planParts_57 rfl rfl ?_
    refine b_gr (pc2 := 61) d_Se_planParts_58 q_8_24 (sh_86 n0) (by decide) (by decide) (p_86_2 n0) rfl ?_
    refine b_iln (pc2 := 62) d_Se_planParts_61 rfl rfl ?_
    refine b_aa (pc2 := 63) (q := k) d_Se_planParts_62 (sh_118 n0) (Or.inl rfl) (i_in hk4 (by decide)) (i_tn (by omega)) (pt_P n0 hk4) rfl ?_
    refine b_ic (pc2 := 64) (x := Int32.ofNat 1) d_Se_planParts_63 rfl rfl ?_
    refine b_cv1 (pc2 := 67) (c2 := 0) (u2 := 0) (rw_at (k := 1) he hSR (pt_R hk4) (by decide)) d_Se_planParts_64 q_8_84 (Nat.le_of_ble_eq_true rfl) rfl rfl (pt_H n0 hk4) (Nat.le_of_ble_eq_true rfl) rfl rfl (by decide) (by decide) rfl ?_
    rw [q3]
    refine b_isn (pc2 := 68) (al2 := [(3, _), (2, _), (1, _), (0, _)]) d_Se_planParts_67 (by decide) rfl rfl ?_
    refine b_iln (pc2 := 69) d_Se_planParts_68 rfl rfl ?_
    refine b_aln (pc2 := 70) d_Se_planParts_69 rfl rfl ?_
    refine b_gr (pc2 := 73) d_Se_planParts_70 q_8_24 (sh_86 n0) (by decide) (by decide) (p_86_2 n0) rfl ?_
    refine b_iln (pc2 := 74) d_Se_planParts_73 rfl rfl ?_
    refine b_aa (pc2 := 75) (q := k) d_Se_planParts_74 (sh_118 n0) (Or.inl rfl) (i_in hk4 (by decide)) (i_tn (by omega)) (pt_P n0 hk4) rfl ?_
    refine b_cv1 (pc2 := 78) (c2 := 0) (u2 := 0) (rw_length he hSR (pt_R hk4)) d_Se_planParts_75 q_8_80 (Nat.le_of_ble_eq_true rfl) rfl rfl (pt_H n0 hk4) (Nat.le_of_ble_eq_true rfl) rfl rfl (by decide) (by decide) rfl ?_
    refine b_pure (pc2 := 79) d_Se_planParts_78 rfl rfl rfl ?_
    rw [i_add]
    refine b_ic (pc2 := 80) (x := Int32.ofNat 2) d_Se_planParts_79 rfl rfl ?_
    refine b_pure (pc2 := 81) d_Se_planParts_80 rfl rfl rfl ?_
    rw [i_sub (by omega), hpe]
    refine b_is (pc2 := 83) (al2 := [(4, _), (3, _), (2, _), (1, _), (0, _)]) d_Se_planParts_81 (by decide) rfl rfl ?_
    refine b_iln (pc2 := 84) d_Se_planParts_83 rfl rfl ?_
    refine b_aln (pc2 := 85) d_Se_planParts_84 rfl rfl ?_
    refine b_gr (pc2 := 88) d_Se_planParts_85 q_8_34 (sh_86 n0) (by decide) (by decide) (p_86_4 n0) rfl ?_
    refine b_iln (pc2 := 89) d_Se_planParts_88 rfl rfl ?_
    refine b_ia (pc2 := 90) (q := (ps W k)) d_Se_planParts_89 (sh_127 n0) (i_in q2 (by decide)) (i_tn (by omega)) (rc_127) rfl ?_
    rw [u1_at]
    refine b_ifd (pc2 := 96) d_Se_planParts_90 rfl rfl rfl rfl rfl (fun h90 => ?_) (fun h90 => ?_)
    · rw [if_neg (Int32.not_lt.mpr h90)]
      refine b_il (pc2 := 98) d_Se_planParts_96 rfl rfl ?_
      refine b_bp (pc2 := 100) (x := Int32.ofNat 16) d_Se_planParts_98 rfl rfl ?_
      refine b_ifd (pc2 := 106) d_Se_planParts_100 rfl rfl rfl rfl rfl (fun h100 => ?_) (fun h100 => ?_)
      · rw [i_le (by omega) (by decide)] at h100
        rw [if_neg (show ¬ 16 < pe W k by omega)]
        refine b_aln (pc2 := 107) d_Se_planParts_106 rfl rfl ?_
        refine b_gr (pc2 := 110) d_Se_planParts_107 q_8_34 (sh_86 n0) (by decide) (by decide) (p_86_4 n0) rfl ?_
        refine b_iln (pc2 := 111) d_Se_planParts_110 rfl rfl ?_
        refine b_aln (pc2 := 112) d_Se_planParts_111 rfl rfl ?_
        refine b_gr (pc2 := 115) d_Se_planParts_112 q_8_34 (sh_86 n0) (by decide) (by decide) (p_86_4 n0) rfl ?_
        refine b_iln (pc2 := 116) d_Se_planParts_115 rfl rfl ?_
        refine b_ia (pc2 := 117) (q := (ps W k)) d_Se_planParts_116 (sh_127 n0) (i_in q2 (by decide)) (i_tn (by omega)) (rc_127) rfl ?_
        rw [u1_at]
        refine b_il (pc2 := 119) d_Se_planParts_117 rfl rfl ?_
        refine b_mx (pc2 := 122) (i := 0) d_Se_planParts_119 q_8_113 (Nat.le_of_ble_eq_true rfl) rfl ?_
        refine b_ist (pc2 := 123) (q := (ps W k)) d_Se_planParts_122 (sh_127 n0) (i_in q2 (by decide)) (i_tn (by omega)) (rc_127) rfl ?_
        rw [u21]
        refine b_inc (pc2 := 126) (al2 := [(1, _), (4, _), (3, _), (2, _), (0, _)]) (y := Int32.ofNat 1) d_Se_planParts_123 (by decide) rfl rfl rfl rfl ?_
        refine b_go (pc2 := 36) d_Se_planParts_126 rfl ?_
        refine b_nf (al := [(1, _), (0, _)]) (ks := [1, 0]) (sub_c rfl (sub_c rfl (sub_n))) rfl (by decide) ?_
        dsimp only
        rw [i_add]
        exact ih (k + 1) _ (by omega)
      · rw [i_le (by omega) (by decide)] at h100
        rw [if_pos (by omega)]
        refine b_bp (pc2 := 105) (x := Int32.ofNat 13) d_Se_planParts_103 rfl rfl ?_
        refine b_ir d_Se_planParts_105 rfl ?_
        exact ⟨rfl, rfl, rfl, rfl, rfl⟩
    · rw [if_pos (Int32.not_le.mp h90)]
      refine b_bp (pc2 := 95) (x := Int32.ofNat 7) d_Se_planParts_93 rfl rfl ?_
      refine b_ir d_Se_planParts_95 rfl ?_
      exact ⟨rfl, rfl, rfl, rfl, rfl⟩
theorem lp_pl1 {e : Nat} (he : 1 ≤ e) {pn ct : Nat} (hc : J 86 1 = Int32.ofNat ct) (hct : ct ≤ 10) (hp : J 86 3 = Int32.ofNat pn) (hpn : pn ≤ 4) (hl : ∀ a N, R0 a = some N → (W a).length ≤ N) (hok : ∀ k, k < pn → p_ok W k) : ∀ (r k : Nat), k + r = ct → bT e (S0 n0) R0 mt_Se_planParts (bR (some (.int (Int32.ofNat (plan W pn 0 (pl1 W J ct)).1))) W (am_u1 J 127 (plan W pn 0 (pl1 W J ct)).2) g L) 2 [(1, .int (Int32.ofNat k)), (0, .ref 86)] [] W (am_u1 J 127 (pl1 W J k)) g L 0 0 := by
  have hSR := SR0 n0
  intro r
  induction r with
  | zero =>
    intro k hk
    refine b_iln (pc2 := 3) d_Se_planParts_2 rfl rfl ?_
    refine b_aln (pc2 := 4) d_Se_planParts_3 rfl rfl ?_
    refine b_gi (pc2 := 7) d_Se_planParts_4 q_8_18 (sh_86 n0) (by decide) (by decide) (rc_86) rfl ?_
    rw [u1_ne _ _ (by decide), hc]
    refine b_ifd (pc2 := 34) d_Se_planParts_7 rfl rfl rfl rfl rfl (fun h7 => ?_) (fun h7 => ?_)
    rotate_left
    · exact absurd ((i_le (by omega) (by omega)).mpr (by omega)) h7
    refine b_ic (pc2 := 35) (x := Int32.ofNat 0) d_Se_planParts_34 rfl rfl ?_
    refine b_isn (pc2 := 36) (al2 := [(1, _), (0, _)]) d_Se_planParts_35 (by decide) rfl rfl ?_
    refine b_nf (al := [(1, _), (0, _)]) (ks := [1, 0]) (sub_c rfl (sub_c rfl (sub_n))) rfl (by decide) ?_
    dsimp only
    rw [show k = ct by omega]
    exact lp_pl2 he hp hpn hl hok pn 0 _ (by omega)
  | succ r ih =>
    intro k hk
    have hi : k < 10 := by omega
    refine b_iln (pc2 := 3) d_Se_planParts_2 rfl rfl ?_
    refine b_aln (pc2 := 4) d_Se_planParts_3 rfl rfl ?_
    refine b_gi (pc2 := 7) d_Se_planParts_4 q_8_18 (sh_86 n0) (by decide) (by decide) (rc_86) rfl ?_
    rw [u1_ne _ _ (by decide), hc]
    refine b_ifd (pc2 := 34) d_Se_planParts_7 rfl rfl rfl rfl rfl (fun h7 => ?_) (fun h7 => ?_)
    · exact absurd h7 (fun z => by rw [i_le (by omega) (by omega)] at z; omega)
    refine b_aln (pc2 := 11) d_Se_planParts_10 rfl rfl ?_
    refine b_gr (pc2 := 14) d_Se_planParts_11 q_8_34 (sh_86 n0) (by decide) (by decide) (p_86_4 n0) rfl ?_
    refine b_iln (pc2 := 15) d_Se_planParts_14 rfl rfl ?_
    refine b_aln (pc2 := 16) d_Se_planParts_15 rfl rfl ?_
    refine b_gr (pc2 := 19) d_Se_planParts_16 q_8_13 (sh_86 n0) (by decide) (by decide) (p_86_0 n0) rfl ?_
    refine b_iln (pc2 := 20) d_Se_planParts_19 rfl rfl ?_
    refine b_aa (pc2 := 21) (q := k) d_Se_planParts_20 (sh_87 n0) (Or.inr rfl) (i_in hi (by decide)) (i_tn (by omega)) (at_P n0 hi) rfl ?_
    refine b_gr (pc2 := 24) d_Se_planParts_21 q_8_49 (at_H n0 hi) (by decide) (by decide) (at_p0 n0 hi) rfl ?_
    refine b_cv1 (pc2 := 27) (c2 := 0) (u2 := 0) (rw_length he hSR (at_R hi)) d_Se_planParts_24 q_8_80 (Nat.le_of_ble_eq_true rfl) rfl rfl ((hSR _ _ (at_R hi)).1) (Nat.le_of_ble_eq_true rfl) rfl rfl (by decide) (by decide) rfl ?_
    refine b_ist (pc2 := 28) (q := k) d_Se_planParts_27 (sh_127 n0) (i_in hi (by decide)) (i_tn (by omega)) (rc_127) rfl ?_
    rw [u21, pl1_step]
    refine b_inc (pc2 := 31) (al2 := [(1, _), (0, _)]) (y := Int32.ofNat 1) d_Se_planParts_28 (by decide) rfl rfl rfl rfl ?_
    refine b_go (pc2 := 2) d_Se_planParts_31 rfl ?_
    refine b_nf (al := [(1, _), (0, _)]) (ks := [1, 0]) (sub_c rfl (sub_c rfl (sub_n))) rfl (by decide) ?_
    dsimp only
    rw [i_add]
    exact ih (k + 1) (by omega)
theorem se_planParts {d : Nat} (hd : 2 ≤ d) {pn ct : Nat} (hc : J 86 1 = Int32.ofNat ct) (hct : ct ≤ 10) (hp : J 86 3 = Int32.ofNat pn) (hpn : pn ≤ 4) (hok : ∀ k, k < pn → p_ok W k) : bm d (S0 n0) R0 84 [.ref 86] W J g L (bR (some (.int (Int32.ofNat (plan W pn 0 (pl1 W J ct)).1))) W (am_u1 J 127 (plan W pn 0 (pl1 W J ct)).2) g L) := by
  obtain ⟨e, rfl⟩ : ∃ e, d = e + 1 := ⟨d - 1, by omega⟩
  refine bm_of (Nat.le_of_ble_eq_true rfl) (Or.inr bR_ret) ?_
  show bT e (S0 n0) R0 mt_Se_planParts _ 0 [(0, .ref 86)] [] W J g L 0 0
  have hSR := SR0 n0
  refine b_free fun hl => ?_
  refine b_ic (pc2 := 1) (x := Int32.ofNat 0) d_Se_planParts_0 rfl rfl ?_
  refine b_isn (pc2 := 2) (al2 := [(1, _), (0, _)]) d_Se_planParts_1 (by decide) rfl rfl ?_
  refine b_nf (al := [(1, _), (0, _)]) (ks := [1, 0]) (sub_c rfl (sub_c rfl (sub_n))) rfl (by decide) ?_
  dsimp only
  refine (fun z => ?_ : _ → _) (lp_pl1 (n0 := n0) (W := W) (J := J) (g := g) (L := L) (e := e) (by omega) hc hct hp hpn hl hok ct 0 (by omega))
  rw [pl1_0, u1_id] at z
  exact z
def ovs (W : bw_W) (k : Nat) : bw_W := am_u1 W (89 + 3 * ps W k) ((W (89 + 3 * ps W k)).take (pp W k) ++ (W (119 + 2 * k)).drop 2 ++ (W (89 + 3 * ps W k)).drop (pp W k + ((W (119 + 2 * k)).length - 2)))
def ovl : Nat → Nat → bw_W → bw_W
  | 0, _, W => W
  | r + 1, k, W => ovl r (k + 1) (ovs W k)
def ov_ok : Nat → Nat → bw_W → Prop
  | 0, _, _ => True
  | r + 1, k, W => p_ok W k ∧ pp W k ≤ (W (89 + 3 * ps W k)).length ∧ pp W k + ((W (119 + 2 * k)).length - 2) ≤ 16 ∧ ov_ok r (k + 1) (ovs W k)
theorem lp_end {e : Nat} (he : 1 ≤ e) {pn : Nat} (hp : J 86 3 = Int32.ofNat pn) (hpn : pn ≤ 4) {w0 c0 : Int32} {Qh : am_O → am_H → Prop} : ∀ (r k : Nat) (W : bw_W), k + r = pn → ov_ok r k W → bH e (S0 n0) R0 mt_Se_answerEnd Qh 71 [(2, .int c0), (0, .ref 86)] [] (ovl r k W) J g L 0 0 → bH e (S0 n0) R0 mt_Se_answerEnd Qh 23 [(3, .int (Int32.ofNat k)), (2, .int c0), (0, .ref 86), (1, .int w0)] [] W J g L 0 0 := by
  have hSR := SR0 n0
  intro r
  induction r with
  | zero =>
    intro k W hk hov K
    refine b_iln (pc2 := 24) d_Se_answerEnd_23 rfl rfl ?_
    refine b_aln (pc2 := 25) d_Se_answerEnd_24 rfl rfl ?_
    refine b_gi (pc2 := 28) d_Se_answerEnd_25 q_8_31 (sh_86 n0) (by decide) (by decide) (rc_86) rfl ?_
    rw [hp]
    refine b_ifd (pc2 := 71) d_Se_answerEnd_28 rfl rfl rfl rfl rfl (fun h28 => ?_) (fun h28 => ?_)
    rotate_left
    · exact absurd ((i_le (by omega) (by omega)).mpr (by omega)) h28
    refine b_nf (al := [(2, _), (0, _)]) (ks := [2, 0]) (sub_c rfl (sub_c rfl (sub_n))) rfl (by decide) ?_
    dsimp only
    exact K
  | succ r ih =>
    intro k W hk hov K
    obtain ⟨⟨q1, q2, q3, q4, q5⟩, o1, o2, o3⟩ := hov
    have hk4 : k < 4 := by omega
    have hi := q2
    refine b_iln (pc2 := 24) d_Se_answerEnd_23 rfl rfl ?_
    refine b_aln (pc2 := 25) d_Se_answerEnd_24 rfl rfl ?_
    refine b_gi (pc2 := 28) d_Se_answerEnd_25 q_8_31 (sh_86 n0) (by decide) (by decide) (rc_86) rfl ?_
    rw [hp]
    refine b_ifd (pc2 := 71) d_Se_answerEnd_28 rfl rfl rfl rfl rfl (fun h28 => ?_) (fun h28 => ?_)
    · exact absurd h28 (fun z => by rw [i_le (by omega) (by omega)] at z; omega)
    refine b_aln (pc2 := 32) d_Se_answerEnd_31 rfl rfl ?_
    refine b_aln (pc2 := 33) d_Se_answerEnd_32 rfl rfl ?_
    refine b_gr (pc2 := 36) d_Se_answerEnd_33 q_8_24 (sh_86 n0) (by decide) (by decide) (p_86_2 n0) rfl ?_
    refine b_iln (pc2 := 37) d_Se_answerEnd_36 rfl rfl ?_
    refine b_aa (pc2 := 38) (q := k) d_Se_answerEnd_37 (sh_118 n0) (Or.inl rfl) (i_in hk4 (by decide)) (i_tn (by omega)) (pt_P n0 hk4) rfl ?_
    refine b_ic (pc2 := 39) (x := Int32.ofNat 0) d_Se_answerEnd_38 rfl rfl ?_
    refine b_cv1 (pc2 := 42) (c2 := 0) (u2 := 0) (rw_at (k := 0) he hSR (pt_R hk4) (by decide)) d_Se_answerEnd_39 q_8_84 (Nat.le_of_ble_eq_true rfl) rfl rfl (pt_H n0 hk4) (Nat.le_of_ble_eq_true rfl) rfl rfl (by decide) (by decide) rfl ?_
    rw [q1]
    refine b_cv1 (pc2 := 45) (c2 := 0) (u2 := 0) (se_valueOf he hi) d_Se_answerEnd_42 q_8_66 (Nat.le_of_ble_eq_true rfl) rfl rfl (sh_86 n0) (Nat.le_of_ble_eq_true rfl) rfl rfl (by decide) (by decide) rfl ?_
    refine b_aln (pc2 := 46) d_Se_answerEnd_45 rfl rfl ?_
    refine b_gr (pc2 := 49) d_Se_answerEnd_46 q_8_24 (sh_86 n0) (by decide) (by decide) (p_86_2 n0) rfl ?_
    refine b_iln (pc2 := 50) d_Se_answerEnd_49 rfl rfl ?_
    refine b_aa (pc2 := 51) (q := k) d_Se_answerEnd_50 (sh_118 n0) (Or.inl rfl) (i_in hk4 (by decide)) (i_tn (by omega)) (pt_P n0 hk4) rfl ?_
    refine b_ic (pc2 := 52) (x := Int32.ofNat 1) d_Se_answerEnd_51 rfl rfl ?_
    refine b_cv1 (pc2 := 55) (c2 := 0) (u2 := 0) (rw_at (k := 1) he hSR (pt_R hk4) (by decide)) d_Se_answerEnd_52 q_8_84 (Nat.le_of_ble_eq_true rfl) rfl rfl (pt_H n0 hk4) (Nat.le_of_ble_eq_true rfl) rfl rfl (by decide) (by decide) rfl ?_
    rw [q3]
    refine b_aln (pc2 := 56) d_Se_answerEnd_55 rfl rfl ?_
    refine b_gr (pc2 := 59) d_Se_answerEnd_56 q_8_24 (sh_86 n0) (by decide) (by decide) (p_86_2 n0) rfl ?_
    refine b_iln (pc2 := 60) d_Se_answerEnd_59 rfl rfl ?_
    refine b_aa (pc2 := 61) (q := k) d_Se_answerEnd_60 (sh_118 n0) (Or.inl rfl) (i_in hk4 (by decide)) (i_tn (by omega)) (pt_P n0 hk4) rfl ?_
    refine b_ic (pc2 := 62) (x := Int32.ofNat 2) d_Se_answerEnd_61 rfl rfl ?_
    refine b_cv0 (pc2 := 65) (c2 := 0) (u2 := 0) (rw_overlay (f := 2) he hSR (at_R hi) (pt_R hk4) (by omega) q5 o1 o2) d_Se_answerEnd_62 q_8_146 (Nat.le_of_ble_eq_true rfl) rfl rfl ((hSR _ _ (at_R hi)).1) (Nat.le_of_ble_eq_true rfl) rfl rfl (by decide) (by decide) rfl ?_
    refine b_inc (pc2 := 68) (al2 := [(3, _), (2, _), (0, _), (1, _)]) (y := Int32.ofNat 1) d_Se_answerEnd_65 (by decide) rfl rfl rfl rfl ?_
    refine b_go (pc2 := 23) d_Se_answerEnd_68 rfl ?_
    refine b_nf (al := [(3, _), (2, _), (0, _), (1, _)]) (ks := [3, 2, 0, 1]) (sub_c rfl (sub_c rfl (sub_c rfl (sub_c rfl (sub_n))))) rfl (by decide) ?_
    dsimp only
    rw [i_add]
    exact ih (k + 1) _ (by omega) o3 K
theorem se_end71 {e : Nat} (he : 1 ≤ e) {c0 : Int32} (ha : W 128 = []) : bT e (S0 n0) R0 mt_Se_answerEnd (bR (some (.int c0)) (am_u1 W 128 [Int32.ofNat 25]) (am_u2 J 86 3 0) g L) 71 [(2, .int c0), (0, .ref 86)] [] W J g L 0 0 := by
  have hSR := SR0 n0
  refine b_aln (pc2 := 72) d_Se_answerEnd_71 rfl rfl ?_
  refine b_ic (pc2 := 73) (x := Int32.ofNat 0) d_Se_answerEnd_72 rfl rfl ?_
  refine b_pi (pc2 := 76) d_Se_answerEnd_73 q_8_31 (sh_86 n0) (by decide) (Or.inl (by decide)) (Or.inl rfl) (rc_86) rfl ?_
  refine b_aln (pc2 := 77) d_Se_answerEnd_76 rfl rfl ?_
  refine b_gr (pc2 := 80) d_Se_answerEnd_77 q_8_38 (sh_86 n0) (by decide) (by decide) (p_86_5 n0) rfl ?_
  refine b_bp (pc2 := 82) (x := Int32.ofNat 25) d_Se_answerEnd_80 rfl rfl ?_
  refine b_cv0 (pc2 := 85) (c2 := 0) (u2 := 0) (rw_add he hSR R_128 (by rw [ha]; decide)) d_Se_answerEnd_82 q_8_63 (Nat.le_of_ble_eq_true rfl) rfl rfl (sh_128 n0) (Nat.le_of_ble_eq_true rfl) rfl rfl (by decide) (by decide) rfl ?_
  rw [ha, List.nil_append, b255 (n := 25) (by decide)]
  refine b_iln (pc2 := 86) d_Se_answerEnd_85 rfl rfl ?_
  refine b_ir d_Se_answerEnd_86 rfl ?_
  exact ⟨rfl, rfl, rfl, rfl, rfl⟩
theorem se_end0 {d : Nat} (hd : 3 ≤ d) (ha : W 128 = []) : bm d (S0 n0) R0 83 [.ref 86, .int (Int32.ofNat 0)] W J g L (bR (some (.int (Int32.ofNat 0))) (am_u1 W 128 [Int32.ofNat 25]) (am_u2 J 86 3 0) g L) := by
  obtain ⟨e, rfl⟩ : ∃ e, d = e + 1 := ⟨d - 1, by omega⟩
  refine bm_of (Nat.le_of_ble_eq_true rfl) (Or.inr bR_ret) ?_
  show bT e (S0 n0) R0 mt_Se_answerEnd _ 0 [(0, .ref 86), (1, .int (Int32.ofNat 0))] [] W J g L 0 0
  have hSR := SR0 n0
  refine b_iln (pc2 := 1) d_Se_answerEnd_0 rfl rfl ?_
  refine b_ifd (pc2 := 11) d_Se_answerEnd_1 rfl rfl rfl rfl rfl (fun h1 => ?_) (fun h1 => ?_)
  rotate_left
  · exact absurd (by decide) h1
  refine b_ic (pc2 := 12) (x := Int32.ofNat 0) d_Se_answerEnd_11 rfl rfl ?_
  refine b_isn (pc2 := 13) (al2 := [(2, _), (0, _), (1, _)]) d_Se_answerEnd_12 (by decide) rfl rfl ?_
  refine b_iln (pc2 := 14) d_Se_answerEnd_13 rfl rfl ?_
  refine b_ifd (pc2 := 71) d_Se_answerEnd_14 rfl rfl rfl rfl rfl (fun h14 => ?_) (fun h14 => ?_)
  rotate_left
  · exact absurd (by decide) h14
  refine b_nf (al := [(2, _), (0, _)]) (ks := [2, 0]) (sub_c rfl (sub_c rfl (sub_n))) rfl (by decide) ?_
  dsimp only
  exact se_end71 (by omega) ha
theorem se_end1 {d : Nat} (hd : 3 ≤ d) {pn ct : Nat} (hc : J 86 1 = Int32.ofNat ct) (hct : ct ≤ 10) (hp : J 86 3 = Int32.ofNat pn) (hpn : pn ≤ 4) (hok : ∀ k, k < pn → p_ok W k) {cd : Nat} {pf : Nat → Int32} (hpl : plan W pn 0 (pl1 W J ct) = (cd, pf)) (hcd : 0 < cd) (hcd2 : cd < 256) (ha : W 128 = []) : bm d (S0 n0) R0 83 [.ref 86, .int (Int32.ofNat 1)] W J g L (bR (some (.int (Int32.ofNat cd))) (am_u1 W 128 [Int32.ofNat 25]) (am_u2 (am_u1 J 127 pf) 86 3 0) g L) := by
  obtain ⟨e, rfl⟩ : ∃ e, d = e + 1 := ⟨d - 1, by omega⟩
  refine bm_of (Nat.le_of_ble_eq_true rfl) (Or.inr bR_ret) ?_
  show bT e (S0 n0) R0 mt_Se_answerEnd _ 0 [(0, .ref 86), (1, .int (Int32.ofNat 1))] [] W J g L 0 0
  have hSR := SR0 n0
  refine b_iln (pc2 := 1) d_Se_answerEnd_0 rfl rfl ?_
  refine b_ifd (pc2 := 11) d_Se_answerEnd_1 rfl rfl rfl rfl rfl (fun h1 => ?_) (fun h1 => ?_)
  · exact absurd h1 (by decide)
  refine b_aln (pc2 := 5) d_Se_answerEnd_4 rfl rfl ?_
  refine b_cv1 (pc2 := 8) (c2 := 0) (u2 := 0) (se_planParts (by omega) hc hct hp hpn hok) d_Se_answerEnd_5 q_8_143 (Nat.le_of_ble_eq_true rfl) rfl rfl (sh_86 n0) (Nat.le_of_ble_eq_true rfl) rfl rfl (by decide) (by decide) rfl ?_
  rw [hpl]
  refine b_go (pc2 := 12) d_Se_answerEnd_8 rfl ?_
  refine b_isn (pc2 := 13) (al2 := [(2, _), (0, _), (1, _)]) d_Se_answerEnd_12 (by decide) rfl rfl ?_
  refine b_iln (pc2 := 14) d_Se_answerEnd_13 rfl rfl ?_
  refine b_ifd (pc2 := 71) d_Se_answerEnd_14 rfl rfl rfl rfl rfl (fun h14 => ?_) (fun h14 => ?_)
  · exact absurd h14 (by decide)
  refine b_iln (pc2 := 18) d_Se_answerEnd_17 rfl rfl ?_
  refine b_ifd (pc2 := 71) d_Se_answerEnd_18 rfl rfl rfl rfl rfl (fun h18 => ?_) (fun h18 => ?_)
  rotate_left
  · exact absurd (fun z => by rw [show (0 : Int32) = Int32.ofNat 0 from rfl, i_eq (by omega) (by decide)] at z; omega) h18
  refine b_nf (al := [(2, _), (0, _)]) (ks := [2, 0]) (sub_c rfl (sub_c rfl (sub_n))) rfl (by decide) ?_
  dsimp only
  exact se_end71 (by omega) ha
theorem se_end2 {d : Nat} (hd : 3 ≤ d) {pn ct : Nat} (hc : J 86 1 = Int32.ofNat ct) (hct : ct ≤ 10) (hp : J 86 3 = Int32.ofNat pn) (hpn : pn ≤ 4) (hok : ∀ k, k < pn → p_ok W k) {cd : Nat} {pf : Nat → Int32} (hpl : plan W pn 0 (pl1 W J ct) = (cd, pf)) (hcd : cd = 0) (hov : ov_ok pn 0 W) (ha : ovl pn 0 W 128 = []) : bm d (S0 n0) R0 83 [.ref 86, .int (Int32.ofNat 1)] W J g L (bR (some (.int (Int32.ofNat 0))) (am_u1 (ovl pn 0 W) 128 [Int32.ofNat 25]) (am_u2 (am_u1 J 127 pf) 86 3 0) g L) := by
  obtain ⟨e, rfl⟩ : ∃ e, d = e + 1 := ⟨d - 1, by omega⟩
  refine bm_of (Nat.le_of_ble_eq_true rfl) (Or.inr bR_ret) ?_
  show bT e (S0 n0) R0 mt_Se_answerEnd _ 0 [(0, .ref 86), (1, .int (Int32.ofNat 1))] [] W J g L 0 0
  have hSR := SR0 n0
  refine b_iln (pc2 := 1) d_Se_answerEnd_0 rfl rfl ?_
  refine b_ifd (pc2 := 11) d_Se_answerEnd_1 rfl rfl rfl rfl rfl (fun h1 => ?_) (fun h1 => ?_)
  · exact absurd h1 (by decide)
  refine b_aln (pc2 := 5) d_Se_answerEnd_4 rfl rfl ?_
  refine b_cv1 (pc2 := 8) (c2 := 0) (u2 := 0) (se_planParts (by omega) hc hct hp hpn hok) d_Se_answerEnd_5 q_8_143 (Nat.le_of_ble_eq_true rfl) rfl rfl (sh_86 n0) (Nat.le_of_ble_eq_true rfl) rfl rfl (by decide) (by decide) rfl ?_
  rw [hpl, hcd]
  refine b_go (pc2 := 12) d_Se_answerEnd_8 rfl ?_
  refine b_isn (pc2 := 13) (al2 := [(2, _), (0, _), (1, _)]) d_Se_answerEnd_12 (by decide) rfl rfl ?_
  refine b_iln (pc2 := 14) d_Se_answerEnd_13 rfl rfl ?_
  refine b_ifd (pc2 := 71) d_Se_answerEnd_14 rfl rfl rfl rfl rfl (fun h14 => ?_) (fun h14 => ?_)
  · exact absurd h14 (by decide)
  refine b_iln (pc2 := 18) d_Se_answerEnd_17 rfl rfl ?_
  refine b_ifd (pc2 := 71) d_Se_answerEnd_18 rfl rfl rfl rfl rfl (fun h18 => ?_) (fun h18 => ?_)
  · exact absurd h18 (fun z => z rfl)
  refine b_ic (pc2 := 22) (x := Int32.ofNat 0) d_Se_answerEnd_21 rfl rfl ?_
  refine b_isn (pc2 := 23) (al2 := [(3, _), (2, _), (0, _), (1, _)]) d_Se_answerEnd_22 (by decide) rfl rfl ?_
  refine b_nf (al := [(3, _), (2, _), (0, _), (1, _)]) (ks := [3, 2, 0, 1]) (sub_c rfl (sub_c rfl (sub_c rfl (sub_c rfl (sub_n))))) rfl (by decide) ?_
  dsimp only
  exact lp_end (by omega) (by rw [u1_ne _ _ (by decide)]; exact hp) hpn pn 0 W (by omega) hov (se_end71 (by omega) ha)
end PL
