/-! Part 65 (written by gen16.py): Server: small ones -/
theorem at_P (n0 : Nat) {i : Nat} (h : i < 10) : (S0 n0).2.1 87 i = some (88 + 3 * i) := match i, h with
  | 0, _ => rfl
  | 1, _ => rfl
  | 2, _ => rfl
  | 3, _ => rfl
  | 4, _ => rfl
  | 5, _ => rfl
  | 6, _ => rfl
  | 7, _ => rfl
  | 8, _ => rfl
  | 9, _ => rfl
  | n + 10, h => absurd h (by omega)
theorem at_H (n0 : Nat) {i : Nat} (h : i < 10) : (S0 n0).1 (88 + 3 * i) = some (0, 3) := match i, h with
  | 0, _ => rfl
  | 1, _ => rfl
  | 2, _ => rfl
  | 3, _ => rfl
  | 4, _ => rfl
  | 5, _ => rfl
  | 6, _ => rfl
  | 7, _ => rfl
  | 8, _ => rfl
  | 9, _ => rfl
  | n + 10, h => absurd h (by omega)
theorem at_p0 (n0 : Nat) {i : Nat} (h : i < 10) : (S0 n0).2.1 (88 + 3 * i) 0 = some (89 + 3 * i) := match i, h with
  | 0, _ => rfl
  | 1, _ => rfl
  | 2, _ => rfl
  | 3, _ => rfl
  | 4, _ => rfl
  | 5, _ => rfl
  | 6, _ => rfl
  | 7, _ => rfl
  | 8, _ => rfl
  | 9, _ => rfl
  | n + 10, h => absurd h (by omega)
theorem at_R {i : Nat} (h : i < 10) : R0 (89 + 3 * i) = some 16 := match i, h with
  | 0, _ => R_89
  | 1, _ => R_92
  | 2, _ => R_95
  | 3, _ => R_98
  | 4, _ => R_101
  | 5, _ => R_104
  | 6, _ => R_107
  | 7, _ => R_110
  | 8, _ => R_113
  | 9, _ => R_116
  | n + 10, h => absurd h (by omega)
theorem at_rc {i : Nat} (h : i < 10) : bw_rc R0 (88 + 3 * i) = false := match i, h with
  | 0, _ => rc_88
  | 1, _ => rc_91
  | 2, _ => rc_94
  | 3, _ => rc_97
  | 4, _ => rc_100
  | 5, _ => rc_103
  | 6, _ => rc_106
  | 7, _ => rc_109
  | 8, _ => rc_112
  | 9, _ => rc_115
  | n + 10, h => absurd h (by omega)
theorem pt_P (n0 : Nat) {i : Nat} (h : i < 4) : (S0 n0).2.1 118 i = some (119 + 2 * i) := match i, h with
  | 0, _ => rfl
  | 1, _ => rfl
  | 2, _ => rfl
  | 3, _ => rfl
  | n + 4, h => absurd h (by omega)
theorem pt_H (n0 : Nat) {i : Nat} (h : i < 4) : (S0 n0).1 (119 + 2 * i) = some (7, 2) := match i, h with
  | 0, _ => rfl
  | 1, _ => rfl
  | 2, _ => rfl
  | 3, _ => rfl
  | n + 4, h => absurd h (by omega)
theorem pt_R {i : Nat} (h : i < 4) : R0 (119 + 2 * i) = some 20 := match i, h with
  | 0, _ => R_119
  | 1, _ => R_121
  | 2, _ => R_123
  | 3, _ => R_125
  | n + 4, h => absurd h (by omega)
section SE
variable {n0 : Nat} {W : bw_W} {J : bw_J} {g : Nat} {L : bw_L}
variable {i : Nat}
theorem se_isFull {d : Nat} (hd : 1 ≤ d) {ct : Nat} (hc : J 86 1 = Int32.ofNat ct) (hc2 : ct ≤ 10) : bm d (S0 n0) R0 29 [.ref 86] W J g L (bR (some (.int (if ct < 10 then 0 else 1))) W J g L) := by
  obtain ⟨e, rfl⟩ : ∃ e, d = e + 1 := ⟨d - 1, by omega⟩
  refine bm_of (Nat.le_of_ble_eq_true rfl) (Or.inr bR_ret) ?_
  show bT e (S0 n0) R0 mt_Se_isFull _ 0 [(0, .ref 86)] [] W J g L 0 0
  have hSR := SR0 n0
  refine b_aln (pc2 := 1) d_Se_isFull_0 rfl rfl ?_
  refine b_gi (pc2 := 4) d_Se_isFull_1 q_8_18 (sh_86 n0) (by decide) (by decide) (rc_86) rfl ?_
  refine b_bp (pc2 := 6) (x := Int32.ofNat 10) d_Se_isFull_4 rfl rfl ?_
  refine b_ifd (pc2 := 13) d_Se_isFull_6 rfl rfl rfl rfl rfl (fun h6 => ?_) (fun h6 => ?_)
  · refine b_ic (pc2 := 14) (x := Int32.ofNat 0) d_Se_isFull_13 rfl rfl ?_
    refine b_br d_Se_isFull_14 rfl (by decide) ?_
    rw [hc, i_lt (by omega) (by decide)] at h6
    exact ⟨by rw [if_pos h6]; rfl, rfl, rfl, rfl, rfl⟩
  · refine b_ic (pc2 := 10) (x := Int32.ofNat 1) d_Se_isFull_9 rfl rfl ?_
    refine b_go (pc2 := 14) d_Se_isFull_10 rfl ?_
    refine b_br d_Se_isFull_14 rfl (by decide) ?_
    rw [hc, i_lt (by omega) (by decide)] at h6
    exact ⟨by rw [if_neg h6]; rfl, rfl, rfl, rfl, rfl⟩
theorem se_hasHandle {d : Nat} (hd : 1 ≤ d) {h : Int32} : bm d (S0 n0) R0 35 [.ref 86, .int h] W J g L (bR (some (.int (if ¬ h < Int32.ofNat 1 ∧ ¬ J 86 1 < h then 1 else 0))) W J g L) := by
  obtain ⟨e, rfl⟩ : ∃ e, d = e + 1 := ⟨d - 1, by omega⟩
  refine bm_of (Nat.le_of_ble_eq_true rfl) (Or.inr bR_ret) ?_
  show bT e (S0 n0) R0 mt_Se_hasHandle _ 0 [(0, .ref 86), (1, .int h)] [] W J g L 0 0
  have hSR := SR0 n0
  refine b_iln (pc2 := 1) d_Se_hasHandle_0 rfl rfl ?_
  refine b_ic (pc2 := 2) (x := Int32.ofNat 1) d_Se_hasHandle_1 rfl rfl ?_
  refine b_ifd (pc2 := 17) d_Se_hasHandle_2 rfl rfl rfl rfl rfl (fun h2 => ?_) (fun h2 => ?_)
  · refine b_ic (pc2 := 18) (x := Int32.ofNat 0) d_Se_hasHandle_17 rfl rfl ?_
    refine b_br d_Se_hasHandle_18 rfl (by decide) ?_
    exact ⟨by rw [if_neg (fun z => z.1 h2)]; rfl, rfl, rfl, rfl, rfl⟩
  · refine b_iln (pc2 := 6) d_Se_hasHandle_5 rfl rfl ?_
    refine b_aln (pc2 := 7) d_Se_hasHandle_6 rfl rfl ?_
    refine b_gi (pc2 := 10) d_Se_hasHandle_7 q_8_18 (sh_86 n0) (by decide) (by decide) (rc_86) rfl ?_
    refine b_ifd (pc2 := 17) d_Se_hasHandle_10 rfl rfl rfl rfl rfl (fun h10 => ?_) (fun h10 => ?_)
    · refine b_ic (pc2 := 18) (x := Int32.ofNat 0) d_Se_hasHandle_17 rfl rfl ?_
      refine b_br d_Se_hasHandle_18 rfl (by decide) ?_
      exact ⟨by rw [if_neg (fun z => z.2 h10)]; rfl, rfl, rfl, rfl, rfl⟩
    · refine b_ic (pc2 := 14) (x := Int32.ofNat 1) d_Se_hasHandle_13 rfl rfl ?_
      refine b_go (pc2 := 18) d_Se_hasHandle_14 rfl ?_
      refine b_br d_Se_hasHandle_18 rfl (by decide) ?_
      exact ⟨by rw [if_pos ⟨h2, h10⟩]; rfl, rfl, rfl, rfl, rfl⟩
theorem se_valueOf {d : Nat} (hd : 1 ≤ d) (hi : i < 10) : bm d (S0 n0) R0 36 [.ref 86, .int (Int32.ofNat (i + 1))] W J g L (bR (some (.ref (89 + 3 * i))) W J g L) := by
  obtain ⟨e, rfl⟩ : ∃ e, d = e + 1 := ⟨d - 1, by omega⟩
  refine bm_of (Nat.le_of_ble_eq_true rfl) (Or.inr bR_ret) ?_
  show bT e (S0 n0) R0 mt_Se_valueOf _ 0 [(0, .ref 86), (1, .int (Int32.ofNat (i + 1)))] [] W J g L 0 0
  have hSR := SR0 n0
  refine b_aln (pc2 := 1) d_Se_valueOf_0 rfl rfl ?_
  refine b_gr (pc2 := 4) d_Se_valueOf_1 q_8_13 (sh_86 n0) (by decide) (by decide) (p_86_0 n0) rfl ?_
  refine b_iln (pc2 := 5) d_Se_valueOf_4 rfl rfl ?_
  refine b_ic (pc2 := 6) (x := Int32.ofNat 1) d_Se_valueOf_5 rfl rfl ?_
  refine b_pure (pc2 := 7) d_Se_valueOf_6 rfl rfl rfl ?_
  rw [i_sub (by omega), show i + 1 - 1 = i by omega]
  refine b_aa (pc2 := 8) (q := i) d_Se_valueOf_7 (sh_87 n0) (Or.inr rfl) (i_in hi (by decide)) (i_tn (by omega)) (at_P n0 hi) rfl ?_
  refine b_gr (pc2 := 11) d_Se_valueOf_8 q_8_49 (at_H n0 hi) (by decide) (by decide) (at_p0 n0 hi) rfl ?_
  refine b_ar d_Se_valueOf_11 rfl ?_
  exact ⟨rfl, rfl, rfl, rfl, rfl⟩
theorem at_become {d : Nat} (hd : 1 ≤ d) (hi : i < 10) {ty pm : Int32} : bm d (S0 n0) R0 31 [.ref (88 + 3 * i), .int ty, .int pm] W J g L (bR none W (am_u2 (am_u2 J (88 + 3 * i) 1 ty) (88 + 3 * i) 2 pm) g L) := by
  obtain ⟨e, rfl⟩ : ∃ e, d = e + 1 := ⟨d - 1, by omega⟩
  refine bm_of (Nat.le_of_ble_eq_true rfl) (Or.inr bR_ret) ?_
  show bT e (S0 n0) R0 mt_At_become _ 0 [(0, .ref (88 + 3 * i)), (1, .int ty), (2, .int pm)] [] W J g L 0 0
  have hSR := SR0 n0
  refine b_aln (pc2 := 1) d_At_become_0 rfl rfl ?_
  refine b_iln (pc2 := 2) d_At_become_1 rfl rfl ?_
  refine b_pi (pc2 := 5) d_At_become_2 q_0_20 (at_H n0 hi) (by decide) (Or.inl (by decide)) (Or.inl rfl) (at_rc hi) rfl ?_
  refine b_aln (pc2 := 6) d_At_become_5 rfl rfl ?_
  refine b_iln (pc2 := 7) d_At_become_6 rfl rfl ?_
  refine b_pi (pc2 := 10) d_At_become_7 q_0_24 (at_H n0 hi) (by decide) (Or.inl (by decide)) (Or.inl rfl) (at_rc hi) rfl ?_
  refine b_vr d_At_become_10 rfl ?_
  exact ⟨rfl, rfl, rfl, rfl, rfl⟩
theorem at_isOfType {d : Nat} (hd : 1 ≤ d) (hi : i < 10) {x : Int32} : bm d (S0 n0) R0 82 [.ref (88 + 3 * i), .int x] W J g L (bR (some (.int (if J (88 + 3 * i) 1 = x then 1 else 0))) W J g L) := by
  obtain ⟨e, rfl⟩ : ∃ e, d = e + 1 := ⟨d - 1, by omega⟩
  refine bm_of (Nat.le_of_ble_eq_true rfl) (Or.inr bR_ret) ?_
  show bT e (S0 n0) R0 mt_At_isOfType _ 0 [(0, .ref (88 + 3 * i)), (1, .int x)] [] W J g L 0 0
  have hSR := SR0 n0
  refine b_aln (pc2 := 1) d_At_isOfType_0 rfl rfl ?_
  refine b_gi (pc2 := 4) d_At_isOfType_1 q_0_20 (at_H n0 hi) (by decide) (by decide) (at_rc hi) rfl ?_
  refine b_iln (pc2 := 5) d_At_isOfType_4 rfl rfl ?_
  refine b_ifd (pc2 := 12) d_At_isOfType_5 rfl rfl rfl rfl rfl (fun h5 => ?_) (fun h5 => ?_)
  · refine b_ic (pc2 := 13) (x := Int32.ofNat 0) d_At_isOfType_12 rfl rfl ?_
    refine b_br d_At_isOfType_13 rfl (by decide) ?_
    exact ⟨by rw [if_neg h5]; rfl, rfl, rfl, rfl, rfl⟩
  · refine b_ic (pc2 := 9) (x := Int32.ofNat 1) d_At_isOfType_8 rfl rfl ?_
    refine b_go (pc2 := 13) d_At_isOfType_9 rfl ?_
    refine b_br d_At_isOfType_13 rfl (by decide) ?_
    exact ⟨by rw [if_pos (Decidable.not_not.mp h5)]; rfl, rfl, rfl, rfl, rfl⟩
theorem at_isReadable {d : Nat} (hd : 1 ≤ d) (hi : i < 10) : bm d (S0 n0) R0 87 [.ref (88 + 3 * i)] W J g L (bR (some (.int (if J (88 + 3 * i) 2 &&& Int32.ofNat 1 = 0 then 0 else 1))) W J g L) := by
  obtain ⟨e, rfl⟩ : ∃ e, d = e + 1 := ⟨d - 1, by omega⟩
  refine bm_of (Nat.le_of_ble_eq_true rfl) (Or.inr bR_ret) ?_
  show bT e (S0 n0) R0 mt_At_isReadable _ 0 [(0, .ref (88 + 3 * i))] [] W J g L 0 0
  have hSR := SR0 n0
  refine b_aln (pc2 := 1) d_At_isReadable_0 rfl rfl ?_
  refine b_gi (pc2 := 4) d_At_isReadable_1 q_0_24 (at_H n0 hi) (by decide) (by decide) (at_rc hi) rfl ?_
  refine b_ic (pc2 := 5) (x := Int32.ofNat 1) d_At_isReadable_4 rfl rfl ?_
  refine b_pure (pc2 := 6) d_At_isReadable_5 rfl rfl rfl ?_
  refine b_ifd (pc2 := 13) d_At_isReadable_6 rfl rfl rfl rfl rfl (fun h6 => ?_) (fun h6 => ?_)
  · refine b_ic (pc2 := 14) (x := Int32.ofNat 0) d_At_isReadable_13 rfl rfl ?_
    refine b_br d_At_isReadable_14 rfl (by decide) ?_
    exact ⟨by rw [if_pos h6]; rfl, rfl, rfl, rfl, rfl⟩
  · refine b_ic (pc2 := 10) (x := Int32.ofNat 1) d_At_isReadable_9 rfl rfl ?_
    refine b_go (pc2 := 14) d_At_isReadable_10 rfl ?_
    refine b_br d_At_isReadable_14 rfl (by decide) ?_
    exact ⟨by rw [if_neg h6]; rfl, rfl, rfl, rfl, rfl⟩
theorem at_isWritable {d : Nat} (hd : 1 ≤ d) (hi : i < 10) : bm d (S0 n0) R0 89 [.ref (88 + 3 * i)] W J g L (bR (some (.int (if J (88 + 3 * i) 2 &&& Int32.ofNat 2 = 0 then 0 else 1))) W J g L) := by
  obtain ⟨e, rfl⟩ : ∃ e, d = e + 1 := ⟨d - 1, by omega⟩
  refine bm_of (Nat.le_of_ble_eq_true rfl) (Or.inr bR_ret) ?_
  show bT e (S0 n0) R0 mt_At_isWritable _ 0 [(0, .ref (88 + 3 * i))] [] W J g L 0 0
  have hSR := SR0 n0
  refine b_aln (pc2 := 1) d_At_isWritable_0 rfl rfl ?_
  refine b_gi (pc2 := 4) d_At_isWritable_1 q_0_24 (at_H n0 hi) (by decide) (by decide) (at_rc hi) rfl ?_
  refine b_ic (pc2 := 5) (x := Int32.ofNat 2) d_At_isWritable_4 rfl rfl ?_
  refine b_pure (pc2 := 6) d_At_isWritable_5 rfl rfl rfl ?_
  refine b_ifd (pc2 := 13) d_At_isWritable_6 rfl rfl rfl rfl rfl (fun h6 => ?_) (fun h6 => ?_)
  · refine b_ic (pc2 := 14) (x := Int32.ofNat 0) d_At_isWritable_13 rfl rfl ?_
    refine b_br d_At_isWritable_14 rfl (by decide) ?_
    exact ⟨by rw [if_pos h6]; rfl, rfl, rfl, rfl, rfl⟩
  · refine b_ic (pc2 := 10) (x := Int32.ofNat 1) d_At_isWritable_9 rfl rfl ?_
    refine b_go (pc2 := 14) d_At_isWritable_10 rfl ?_
    refine b_br d_At_isWritable_14 rfl (by decide) ?_
    exact ⟨by rw [if_neg h6]; rfl, rfl, rfl, rfl, rfl⟩
theorem bl_ok {n : Nat} (hn : n < 2147483648) : (if Int32.ofNat 8 < (if Int32.ofNat n < Int32.ofNat 20 then Int32.ofNat n else Int32.ofNat 20) then (if Int32.ofNat n < Int32.ofNat 20 then Int32.ofNat n else Int32.ofNat 20) else Int32.ofNat 8) = Int32.ofNat (max 8 (min 20 n)) := by
  have e : (if Int32.ofNat n < Int32.ofNat 20 then Int32.ofNat n else Int32.ofNat 20) = Int32.ofNat (min 20 n) := by
    by_cases h : n < 20
    · rw [if_pos ((i_lt hn (by decide)).mpr h), Nat.min_eq_right (by omega)]
    · rw [if_neg (fun z => h ((i_lt hn (by decide)).mp z)), Nat.min_eq_left (by omega)]
  rw [e]
  by_cases h : 8 < min 20 n
  · rw [if_pos ((i_lt (by decide) (by omega)).mpr h), Nat.max_eq_right (by omega)]
  · rw [if_neg (fun z => h ((i_lt (by decide) (by omega)).mp z)), Nat.max_eq_left (by omega)]
theorem al_bounded {d : Nat} (hd : 1 ≤ d) {n : Nat} (hn : n < 2147483648) : bm d (S0 n0) R0 80 [.int (Int32.ofNat n)] W J g L (bR (some (.int (Int32.ofNat (max 8 (min 20 n))))) W J g L) := by
  obtain ⟨e, rfl⟩ : ∃ e, d = e + 1 := ⟨d - 1, by omega⟩
  refine bm_of (Nat.le_of_ble_eq_true rfl) (Or.inr bR_ret) ?_
  show bT e (S0 n0) R0 mt_Al_boundedLimit _ 0 [(0, .int (Int32.ofNat n))] [] W J g L 0 0
  have hSR := SR0 n0
  refine b_bp (pc2 := 2) (x := Int32.ofNat 8) d_Al_boundedLimit_0 rfl rfl ?_
  refine b_bp (pc2 := 4) (x := Int32.ofNat 20) d_Al_boundedLimit_2 rfl rfl ?_
  refine b_iln (pc2 := 5) d_Al_boundedLimit_4 rfl rfl ?_
  refine b_mn (pc2 := 8) (i := 0) d_Al_boundedLimit_5 q_10_170 (Nat.le_of_ble_eq_true rfl) rfl ?_
  refine b_mx (pc2 := 11) (i := 0) d_Al_boundedLimit_8 q_10_176 (Nat.le_of_ble_eq_true rfl) rfl ?_
  refine b_ir d_Al_boundedLimit_11 rfl ?_
  exact ⟨by rw [bl_ok hn], rfl, rfl, rfl, rfl⟩
theorem se_limit {d : Nat} (hd : 1 ≤ d)  : bm d (S0 n0) R0 21 [.ref 86] W J g L (bR (some (.int (J 86 6))) W J g L) := by
  obtain ⟨e, rfl⟩ : ∃ e, d = e + 1 := ⟨d - 1, by omega⟩
  refine bm_of (Nat.le_of_ble_eq_true rfl) (Or.inr bR_ret) ?_
  show bT e (S0 n0) R0 mt_Se_limit _ 0 [(0, .ref 86)] [] W J g L 0 0
  have hSR := SR0 n0
  refine b_aln (pc2 := 1) d_Se_limit_0 rfl rfl ?_
  refine b_gi (pc2 := 4) d_Se_limit_1 q_8_42 (sh_86 n0) (by decide) (by decide) (rc_86) rfl ?_
  refine b_ir d_Se_limit_4 rfl ?_
  exact ⟨rfl, rfl, rfl, rfl, rfl⟩
theorem se_keptParts {d : Nat} (hd : 1 ≤ d)  : bm d (S0 n0) R0 22 [.ref 86] W J g L (bR (some (.int (J 86 3))) W J g L) := by
  obtain ⟨e, rfl⟩ : ∃ e, d = e + 1 := ⟨d - 1, by omega⟩
  refine bm_of (Nat.le_of_ble_eq_true rfl) (Or.inr bR_ret) ?_
  show bT e (S0 n0) R0 mt_Se_keptParts _ 0 [(0, .ref 86)] [] W J g L 0 0
  have hSR := SR0 n0
  refine b_aln (pc2 := 1) d_Se_keptParts_0 rfl rfl ?_
  refine b_gi (pc2 := 4) d_Se_keptParts_1 q_8_31 (sh_86 n0) (by decide) (by decide) (rc_86) rfl ?_
  refine b_ir d_Se_keptParts_4 rfl ?_
  exact ⟨rfl, rfl, rfl, rfl, rfl⟩
theorem se_isUnconfirmed {d : Nat} (hd : 1 ≤ d) (hb : J 86 7 = 0 ∨ J 86 7 = 1) : bm d (S0 n0) R0 23 [.ref 86] W J g L (bR (some (.int (J 86 7))) W J g L) := by
  obtain ⟨e, rfl⟩ : ∃ e, d = e + 1 := ⟨d - 1, by omega⟩
  refine bm_of (Nat.le_of_ble_eq_true rfl) (Or.inr bR_ret) ?_
  show bT e (S0 n0) R0 mt_Se_isUnconfirmed _ 0 [(0, .ref 86)] [] W J g L 0 0
  have hSR := SR0 n0
  refine b_aln (pc2 := 1) d_Se_isUnconfirmed_0 rfl rfl ?_
  refine b_gi (pc2 := 4) d_Se_isUnconfirmed_1 q_8_45 (sh_86 n0) (by decide) (by decide) (rc_86) rfl ?_
  refine b_br d_Se_isUnconfirmed_4 rfl (hb) ?_
  exact ⟨rfl, rfl, rfl, rfl, rfl⟩
theorem se_addAttribute {d : Nat} (hd : 3 ≤ d) (hi : i < 10) (hc : J 86 1 = Int32.ofNat i) {ty pm : Int32} {v : Int64} {n : Nat} (hn : n ≤ 8) (hw : W (89 + 3 * i) = []) : bm d (S0 n0) R0 30 [.ref 86, .int ty, .int pm, .long v, .int (Int32.ofNat n)] W J g L (bR (some (.int (Int32.ofNat (i + 1)))) (am_u1 W (89 + 3 * i) (by8 v n)) (am_u2 (am_u2 (am_u2 J (88 + 3 * i) 1 ty) (88 + 3 * i) 2 pm) 86 1 (Int32.ofNat (i + 1))) g L) := by
  obtain ⟨e, rfl⟩ : ∃ e, d = e + 1 := ⟨d - 1, by omega⟩
  refine bm_of (Nat.le_of_ble_eq_true rfl) (Or.inr bR_ret) ?_
  show bT e (S0 n0) R0 mt_Se_addAttribute _ 0 [(0, .ref 86), (1, .int ty), (2, .int pm), (3, .long v), (5, .int (Int32.ofNat n))] [] W J g L 0 0
  have hSR := SR0 n0
  refine b_aln (pc2 := 1) d_Se_addAttribute_0 rfl rfl ?_
  refine b_gr (pc2 := 4) d_Se_addAttribute_1 q_8_13 (sh_86 n0) (by decide) (by decide) (p_86_0 n0) rfl ?_
  refine b_aln (pc2 := 5) d_Se_addAttribute_4 rfl rfl ?_
  refine b_gi (pc2 := 8) d_Se_addAttribute_5 q_8_18 (sh_86 n0) (by decide) (by decide) (rc_86) rfl ?_
  rw [hc]
  refine b_aa (pc2 := 9) (q := i) d_Se_addAttribute_8 (sh_87 n0) (Or.inr rfl) (i_in hi (by decide)) (i_tn (by omega)) (at_P n0 hi) rfl ?_
  refine b_iln (pc2 := 10) d_Se_addAttribute_9 rfl rfl ?_
  refine b_iln (pc2 := 11) d_Se_addAttribute_10 rfl rfl ?_
  refine b_cv0 (pc2 := 14) (c2 := 0) (u2 := 0) (at_become (by omega) hi) d_Se_addAttribute_11 q_8_52 (Nat.le_of_ble_eq_true rfl) rfl rfl (at_H n0 hi) (Nat.le_of_ble_eq_true rfl) rfl rfl (by decide) (by decide) rfl ?_
  refine b_aln (pc2 := 15) d_Se_addAttribute_14 rfl rfl ?_
  refine b_gr (pc2 := 18) d_Se_addAttribute_15 q_8_13 (sh_86 n0) (by decide) (by decide) (p_86_0 n0) rfl ?_
  refine b_aln (pc2 := 19) d_Se_addAttribute_18 rfl rfl ?_
  refine b_gi (pc2 := 22) d_Se_addAttribute_19 q_8_18 (sh_86 n0) (by decide) (by decide) (rc_86) rfl ?_
  rw [u2_a _ _ (by omega), u2_a _ _ (by omega), hc]
  refine b_aa (pc2 := 23) (q := i) d_Se_addAttribute_22 (sh_87 n0) (Or.inr rfl) (i_in hi (by decide)) (i_tn (by omega)) (at_P n0 hi) rfl ?_
  refine b_gr (pc2 := 26) d_Se_addAttribute_23 q_8_49 (at_H n0 hi) (by decide) (by decide) (at_p0 n0 hi) rfl ?_
  refine b_lln (pc2 := 27) d_Se_addAttribute_26 rfl rfl ?_
  refine b_il (pc2 := 29) d_Se_addAttribute_27 rfl rfl ?_
  refine b_cv0 (pc2 := 32) (c2 := 0) (u2 := 0) (rw_addNumber (by omega) hSR (at_R hi) (by omega) (by rw [hw]; show 0 + n ≤ 16; omega)) d_Se_addAttribute_29 q_8_56 (Nat.le_of_ble_eq_true rfl) rfl rfl ((hSR _ _ (at_R hi)).1) (Nat.le_of_ble_eq_true rfl) rfl rfl (by decide) (by decide) rfl ?_
  rw [hw, List.nil_append]
  refine b_aln (pc2 := 33) d_Se_addAttribute_32 rfl rfl ?_
  refine b_pure (pc2 := 34) d_Se_addAttribute_33 rfl rfl rfl ?_
  refine b_gi (pc2 := 37) d_Se_addAttribute_34 q_8_18 (sh_86 n0) (by decide) (by decide) (rc_86) rfl ?_
  rw [u2_a _ _ (by omega), u2_a _ _ (by omega), hc]
  refine b_ic (pc2 := 38) (x := Int32.ofNat 1) d_Se_addAttribute_37 rfl rfl ?_
  refine b_pure (pc2 := 39) d_Se_addAttribute_38 rfl rfl rfl ?_
  rw [i_add]
  refine b_pi (pc2 := 42) d_Se_addAttribute_39 q_8_18 (sh_86 n0) (by decide) (Or.inl (by decide)) (Or.inl rfl) (rc_86) rfl ?_
  refine b_aln (pc2 := 43) d_Se_addAttribute_42 rfl rfl ?_
  refine b_gi (pc2 := 46) d_Se_addAttribute_43 q_8_18 (sh_86 n0) (by decide) (by decide) (rc_86) rfl ?_
  rw [u2_at]
  refine b_ir d_Se_addAttribute_46 rfl ?_
  exact ⟨rfl, rfl, rfl, rfl, rfl⟩
theorem se_answerError {d : Nat} (hd : 2 ≤ d) {x y z : Nat} (hx : x < 256) (hy : y < 256) (hz : z < 256) : bm d (S0 n0) R0 92 [.ref 86, .int (Int32.ofNat x), .int (Int32.ofNat y), .int (Int32.ofNat z)] W J g L (bR none (am_u1 W 128 [Int32.ofNat 1, Int32.ofNat x, Int32.ofNat y, Int32.ofNat z]) J g L) := by
  obtain ⟨e, rfl⟩ : ∃ e, d = e + 1 := ⟨d - 1, by omega⟩
  refine bm_of (Nat.le_of_ble_eq_true rfl) (Or.inr bR_ret) ?_
  show bT e (S0 n0) R0 mt_Se_answerError _ 0 [(0, .ref 86), (1, .int (Int32.ofNat x)), (2, .int (Int32.ofNat y)), (3, .int (Int32.ofNat z))] [] W J g L 0 0
  have hSR := SR0 n0
  refine b_aln (pc2 := 1) d_Se_answerError_0 rfl rfl ?_
  refine b_gr (pc2 := 4) d_Se_answerError_1 q_8_38 (sh_86 n0) (by decide) (by decide) (p_86_5 n0) rfl ?_
  refine b_cv0 (pc2 := 7) (c2 := 0) (u2 := 0) (rw_clear (by omega) hSR R_128) d_Se_answerError_4 q_8_60 (Nat.le_of_ble_eq_true rfl) rfl rfl (sh_128 n0) (Nat.le_of_ble_eq_true rfl) rfl rfl (by decide) (by decide) rfl ?_
  refine b_aln (pc2 := 8) d_Se_answerError_7 rfl rfl ?_
  refine b_gr (pc2 := 11) d_Se_answerError_8 q_8_38 (sh_86 n0) (by decide) (by decide) (p_86_5 n0) rfl ?_
  refine b_ic (pc2 := 12) (x := Int32.ofNat 1) d_Se_answerError_11 rfl rfl ?_
  refine b_cv0 (pc2 := 15) (c2 := 0) (u2 := 0) (rw_add (by omega) hSR R_128 (by simp only [u1_at, List.length_append, List.length_cons, List.length_nil]; omega)) d_Se_answerError_12 q_8_63 (Nat.le_of_ble_eq_true rfl) rfl rfl (sh_128 n0) (Nat.le_of_ble_eq_true rfl) rfl rfl (by decide) (by decide) rfl ?_
  rw [u1_u1, u1_at]
  refine b_aln (pc2 := 16) d_Se_answerError_15 rfl rfl ?_
  refine b_gr (pc2 := 19) d_Se_answerError_16 q_8_38 (sh_86 n0) (by decide) (by decide) (p_86_5 n0) rfl ?_
  refine b_iln (pc2 := 20) d_Se_answerError_19 rfl rfl ?_
  refine b_cv0 (pc2 := 23) (c2 := 0) (u2 := 0) (rw_add (by omega) hSR R_128 (by simp only [u1_at, List.length_append, List.length_cons, List.length_nil]; omega)) d_Se_answerError_20 q_8_63 (Nat.le_of_ble_eq_true rfl) rfl rfl (sh_128 n0) (Nat.le_of_ble_eq_true rfl) rfl rfl (by decide) (by decide) rfl ?_
  rw [u1_u1, u1_at, b255 hx]
  refine b_aln (pc2 := 24) d_Se_answerError_23 rfl rfl ?_
  refine b_gr (pc2 := 27) d_Se_answerError_24 q_8_38 (sh_86 n0) (by decide) (by decide) (p_86_5 n0) rfl ?_
  refine b_iln (pc2 := 28) d_Se_answerError_27 rfl rfl ?_
  refine b_cv0 (pc2 := 31) (c2 := 0) (u2 := 0) (rw_add (by omega) hSR R_128 (by simp only [u1_at, List.length_append, List.length_cons, List.length_nil]; omega)) d_Se_answerError_28 q_8_63 (Nat.le_of_ble_eq_true rfl) rfl rfl (sh_128 n0) (Nat.le_of_ble_eq_true rfl) rfl rfl (by decide) (by decide) rfl ?_
  rw [u1_u1, u1_at, b255 hy]
  refine b_aln (pc2 := 32) d_Se_answerError_31 rfl rfl ?_
  refine b_gr (pc2 := 35) d_Se_answerError_32 q_8_38 (sh_86 n0) (by decide) (by decide) (p_86_5 n0) rfl ?_
  refine b_iln (pc2 := 36) d_Se_answerError_35 rfl rfl ?_
  refine b_cv0 (pc2 := 39) (c2 := 0) (u2 := 0) (rw_add (by omega) hSR R_128 (by simp only [u1_at, List.length_append, List.length_cons, List.length_nil]; omega)) d_Se_answerError_36 q_8_63 (Nat.le_of_ble_eq_true rfl) rfl rfl (sh_128 n0) (Nat.le_of_ble_eq_true rfl) rfl rfl (by decide) (by decide) rfl ?_
  rw [u1_u1, u1_at, b255 hz]
  refine b_vr d_Se_answerError_39 rfl ?_
  exact ⟨rfl, rfl, rfl, rfl, rfl⟩
end SE
