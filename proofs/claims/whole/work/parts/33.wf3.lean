/-! Part 33 (written by gen5.py): the tables keep what the machine takes for granted -/
theorem tb_chunk {α : Type} {l : List α} {f : α → Bool} {k : Nat} (h1 : ((l.drop k).take 25).all f = true) (h2 : (l.drop (k + 25)).all f = true) : (l.drop k).all f = true := by
  rw [← List.take_append_drop 25 (l.drop k), List.all_append, h1, List.drop_drop, h2]
  rfl
theorem tb_ca0 : tb_PL0.all (tb_chk 0) = true := (tb_chunk (k := 0) tb_c0_0 rfl)
theorem tb_ca1 : tb_PL1.all (tb_chk 1) = true := (tb_chunk (k := 0) tb_c1_0 rfl)
theorem tb_ca2 : tb_PL2.all (tb_chk 2) = true := (tb_chunk (k := 0) tb_c2_0 (tb_chunk (k := 25) tb_c2_25 rfl))
theorem tb_ca3 : tb_PL3.all (tb_chk 3) = true := (tb_chunk (k := 0) tb_c3_0 (tb_chunk (k := 25) tb_c3_25 rfl))
theorem tb_ca4 : tb_PL4.all (tb_chk 4) = true := (tb_chunk (k := 0) tb_c4_0 rfl)
theorem tb_ca5 : tb_PL5.all (tb_chk 5) = true := (tb_chunk (k := 0) tb_c5_0 rfl)
theorem tb_ca6 : tb_PL6.all (tb_chk 6) = true := (tb_chunk (k := 0) tb_c6_0 rfl)
theorem tb_ca7 : tb_PL7.all (tb_chk 7) = true := (tb_chunk (k := 0) tb_c7_0 rfl)
theorem tb_ca8 : tb_PL8.all (tb_chk 8) = true := (tb_chunk (k := 0) tb_c8_0 (tb_chunk (k := 25) tb_c8_25 rfl))
theorem tb_ca9 : tb_PL9.all (tb_chk 9) = true := (tb_chunk (k := 0) tb_c9_0 rfl)
theorem tb_ca10 : tb_PL10.all (tb_chk 10) = true := (tb_chunk (k := 0) tb_c10_0 (tb_chunk (k := 25) tb_c10_25 (tb_chunk (k := 50) tb_c10_50 rfl)))
theorem tb_ca11 : tb_PL11.all (tb_chk 11) = true := (tb_chunk (k := 0) tb_c11_0 (tb_chunk (k := 25) tb_c11_25 (tb_chunk (k := 50) tb_c11_50 (tb_chunk (k := 75) tb_c11_75 rfl))))
theorem tb_ca12 : tb_PL12.all (tb_chk 12) = true := (tb_chunk (k := 0) tb_c12_0 (tb_chunk (k := 25) tb_c12_25 (tb_chunk (k := 50) tb_c12_50 rfl)))
theorem tb_ca13 : tb_PL13.all (tb_chk 13) = true := rfl
theorem tb_ca14 : tb_PL14.all (tb_chk 14) = true := rfl
theorem tb_ca (o : Nat) : (tb_PL.getD o []).all (tb_chk o) = true := match o with
  | 0 => tb_ca0
  | 1 => tb_ca1
  | 2 => tb_ca2
  | 3 => tb_ca3
  | 4 => tb_ca4
  | 5 => tb_ca5
  | 6 => tb_ca6
  | 7 => tb_ca7
  | 8 => tb_ca8
  | 9 => tb_ca9
  | 10 => tb_ca10
  | 11 => tb_ca11
  | 12 => tb_ca12
  | 13 => tb_ca13
  | 14 => tb_ca14
  | _ + 15 => rfl
theorem tb_get {o idx : Nat} {e : Nat × Nat × Nat × Nat} (h : tb_pl o idx = e) (he : e.1 ≠ 0) : ∃ p, tb_chk o (idx, e, p) = true := by
  unfold tb_pl at h
  split at h
  · rename_i q hq
    have h1 := List.mem_of_find?_eq_some hq
    have h2 := List.find?_some hq
    have h3 := List.all_eq_true.mp (tb_ca o) q h1
    obtain ⟨q1, q2, q3⟩ := q
    have h4 : q1 = idx := by simpa using h2
    subst h4
    subst h
    exact ⟨q3, h3⟩
  · subst h
    exact absurd rfl he
theorem okb_0 : ∀ i, i < 20 → am_okm tb_G tb_own tb_ws (0 + i) := fun i hi => match i, hi with
  | 0, _ => ok_Al_init
  | 1, _ => ok_Ch_init
  | 2, _ => ok_Ma_floorMod
  | 3, _ => ok_Ch_countUsed
  | 4, _ => ok_Ig_bitCount
  | 5, _ => ok_Ch_isMarked
  | 6, _ => ok_Wh_init
  | 7, _ => ok_De_init
  | 8, _ => ok_Ou_init
  | 9, _ => ok_Ro_init
  | 10, _ => ok_In_init
  | 11, _ => ok_Cl_init
  | 12, _ => ok_No_init
  | 13, _ => ok_Ro_add
  | 14, _ => ok_Se_init
  | 15, _ => ok_At_init
  | 16, _ => ok_Al_error
  | 17, _ => ok_Cl_failure
  | 18, _ => ok_Al_look
  | 19, _ => ok_De_misses
  | n + 20, hi => absurd hi (by omega)
theorem okb_1 : ∀ i, i < 20 → am_okm tb_G tb_own tb_ws (20 + i) := fun i hi => match i, hi with
  | 0, _ => ok_Cl_limit
  | 1, _ => ok_Se_limit
  | 2, _ => ok_Se_keptParts
  | 3, _ => ok_Se_isUnconfirmed
  | 4, _ => ok_La_cell
  | 5, _ => ok_La_attribute
  | 6, _ => ok_Al_attribute
  | 7, _ => ok_Al_isByte
  | 8, _ => ok_Al_isNumberSize
  | 9, _ => ok_Se_isFull
  | 10, _ => ok_Se_addAttribute
  | 11, _ => ok_At_become
  | 12, _ => ok_Ro_addNumber
  | 13, _ => ok_La_put
  | 14, _ => ok_Al_put
  | 15, _ => ok_Se_hasHandle
  | 16, _ => ok_Se_valueOf
  | 17, _ => ok_Ro_length
  | 18, _ => ok_Ro_clear
  | 19, _ => ok_La_tell
  | n + 20, hi => absurd hi (by omega)
theorem okb_2 : ∀ i, i < 20 → am_okm tb_G tb_own tb_ws (40 + i) := fun i hi => match i, hi with
  | 0, _ => ok_Al_tell
  | 1, _ => ok_Ou_waiting
  | 2, _ => ok_Se_sayByItself
  | 3, _ => ok_Ro_addFrom
  | 4, _ => ok_Ou_give
  | 5, _ => ok_La_begin
  | 6, _ => ok_Al_begin
  | 7, _ => ok_Al_requireIdleClient
  | 8, _ => ok_Cl_mayStart
  | 9, _ => ok_Cl_start
  | 10, _ => ok_Cl_composeFirst
  | 11, _ => ok_Cl_compose
  | 12, _ => ok_Cl_composeFind
  | 13, _ => ok_Cl_composePart
  | 14, _ => ok_Cl_ask
  | 15, _ => ok_La_write
  | 16, _ => ok_Al_write
  | 17, _ => ok_La_raw
  | 18, _ => ok_Al_raw
  | 19, _ => ok_La_event
  | n + 20, hi => absurd hi (by omega)
theorem okb_3 : ∀ i, i < 20 → am_okm tb_G tb_own tb_ws (60 + i) := fun i hi => match i, hi with
  | 0, _ => ok_Al_event
  | 1, _ => ok_Al_exchange
  | 2, _ => ok_Ch_advance
  | 3, _ => ok_Wh_tune
  | 4, _ => ok_De_send
  | 5, _ => ok_Ou_takePiece
  | 6, _ => ok_De_checkOf
  | 7, _ => ok_Ro_at
  | 8, _ => ok_Wh_turnOver
  | 9, _ => ok_De_hear
  | 10, _ => ok_In_forgetDone
  | 11, _ => ok_De_spoilAt
  | 12, _ => ok_De_isGood
  | 13, _ => ok_De_accept
  | 14, _ => ok_In_take
  | 15, _ => ok_In_isSound
  | 16, _ => ok_In_isDone
  | 17, _ => ok_Se_serve
  | 18, _ => ok_Se_shapeError
  | 19, _ => ok_Se_answerTo
  | n + 20, hi => absurd hi (by omega)
theorem okb_4 : ∀ i, i < 20 → am_okm tb_G tb_own tb_ws (80 + i) := fun i hi => match i, hi with
  | 0, _ => ok_Al_boundedLimit
  | 1, _ => ok_Se_answerFind
  | 2, _ => ok_At_isOfType
  | 3, _ => ok_Se_answerEnd
  | 4, _ => ok_Se_planParts
  | 5, _ => ok_Ro_overlay
  | 6, _ => ok_Se_answerAccess
  | 7, _ => ok_At_isReadable
  | 8, _ => ok_Se_answerRead
  | 9, _ => ok_At_isWritable
  | 10, _ => ok_Se_answerWrite
  | 11, _ => ok_Se_answerPart
  | 12, _ => ok_Se_answerError
  | 13, _ => ok_Cl_listen
  | 14, _ => ok_Cl_keepNote
  | 15, _ => ok_No_keep
  | 16, _ => ok_Cl_endsWith
  | 17, _ => ok_Cl_succeed
  | 18, _ => ok_Cl_fail
  | 19, _ => ok_Cl_takeError
  | n + 20, hi => absurd hi (by omega)
theorem okb_5 : ∀ i, i < 20 → am_okm tb_G tb_own tb_ws (100 + i) := fun i hi => match i, hi with
  | 0, _ => ok_Cl_neededBytes
  | 1, _ => ok_Cl_goOn
  | 2, _ => ok_Cl_goOnReading
  | 3, _ => ok_Ro_cut
  | 4, _ => ok_Cl_goOnFinding
  | 5, _ => ok_Cl_goOnWriting
  | 6, _ => ok_Ro_isSameFrom
  | 7, _ => ok_Al_finish
  | 8, _ => ok_De_countMiss
  | 9, _ => ok_Cl_endEvent
  | 10, _ => ok_La_run
  | 11, _ => ok_Al_run
  | 12, _ => ok_La_outcome
  | 13, _ => ok_Al_outcome
  | 14, _ => ok_Cl_state
  | 15, _ => ok_La_data
  | 16, _ => ok_Al_data
  | 17, _ => ok_Al_byteOrLength
  | 18, _ => ok_Ro_has
  | 19, _ => ok_La_note
  | n + 20, hi => absurd hi (by omega)
theorem okb_6 : ∀ i, i < 20 → am_okm tb_G tb_own tb_ws (120 + i) := fun i hi => match i, hi with
  | 0, _ => ok_Al_note
  | 1, _ => ok_No_has
  | 2, _ => ok_No_latest
  | 3, _ => ok_La_value
  | 4, _ => ok_Al_value
  | 5, _ => ok_La_air
  | 6, _ => ok_Al_air
  | 7, _ => ok_Mo_init
  | 8, _ => ok_Mo_thrown
  | 9, _ => ok_Mo_attribute
  | 10, _ => ok_Mo_byteOf
  | 11, _ => ok_Mo_put
  | 12, _ => ok_Mo_tell
  | 13, _ => ok_Mo_start
  | 14, _ => ok_Mo_lay
  | 15, _ => ok_Mo_give
  | 16, _ => ok_Mo_begin
  | 17, _ => ok_Mo_free
  | 18, _ => ok_Mo_open
  | 19, _ => ok_Mo_ask
  | n + 20, hi => absurd hi (by omega)
theorem okb_7 : ∀ i, i < 20 → am_okm tb_G tb_own tb_ws (140 + i) := fun i hi => match i, hi with
  | 0, _ => ok_Mo_write
  | 1, _ => ok_Mo_writeOn
  | 2, _ => ok_Mo_raw
  | 3, _ => ok_Mo_event
  | 4, _ => ok_Mo_happen
  | 5, _ => ok_Mo_choose
  | 6, _ => ok_Mo_carry
  | 7, _ => ok_Mo_send
  | 8, _ => ok_Mo_take
  | 9, _ => ok_Mo_check
  | 10, _ => ok_Mo_whiten
  | 11, _ => ok_Mo_hear
  | 12, _ => ok_Mo_collect
  | 13, _ => ok_Mo_clientHandles
  | 14, _ => ok_Mo_answered
  | 15, _ => ok_Mo_end
  | 16, _ => ok_Mo_limits
  | 17, _ => ok_Mo_read
  | 18, _ => ok_Mo_found
  | 19, _ => ok_Mo_written
  | n + 20, hi => absurd hi (by omega)
theorem okb_8 : ∀ i, i < 20 → am_okm tb_G tb_own tb_ws (160 + i) := fun i hi => match i, hi with
  | 0, _ => ok_Mo_serverHandles
  | 1, _ => ok_Mo_refuse
  | 2, _ => ok_Mo_sized
  | 3, _ => ok_Mo_agree
  | 4, _ => ok_Mo_seek
  | 5, _ => ok_Mo_finish
  | 6, _ => ok_Mo_judge
  | 7, _ => ok_Mo_touch
  | 8, _ => ok_Mo_show
  | 9, _ => ok_Mo_replace
  | 10, _ => ok_Mo_keep
  | 11, _ => ok_Mo_run
  | 12, _ => ok_Mo_outcome
  | 13, _ => ok_Mo_error
  | 14, _ => ok_Mo_data
  | 15, _ => ok_Mo_note
  | 16, _ => ok_Mo_fail
  | 17, _ => ok_Mo_value
  | 18, _ => ok_Mo_air
  | 19, _ => ok_Mo_look
  | n + 20, hi => absurd hi (by omega)
theorem tb_okm {j : Nat} (hj : j < 180) : am_okm tb_G tb_own tb_ws j := by
  have hm : j % 20 < 20 := Nat.mod_lt _ (by decide)
  have hd : j / 20 < 9 := by omega
  have hc := Nat.div_add_mod j 20
  generalize j % 20 = r at hm hc
  generalize j / 20 = q at hd hc
  subst hc
  match q, hd with
  | 0, _ => exact okb_0 r hm
  | 1, _ => exact okb_1 r hm
  | 2, _ => exact okb_2 r hm
  | 3, _ => exact okb_3 r hm
  | 4, _ => exact okb_4 r hm
  | 5, _ => exact okb_5 r hm
  | 6, _ => exact okb_6 r hm
  | 7, _ => exact okb_7 r hm
  | 8, _ => exact okb_8 r hm
  | q + 9, hd => exact absurd hd (by omega)
theorem tb_spw {k : Nat} {w : Cond} (h : tb_at (tb_sp k) w = true) : w ∈ tb_ws := tb_mem h
def tb_tk (f : Nat) (t : FieldType) : Bool := match f % 10, t with
  | 0, .int => true
  | 1, .boolean => true
  | 2, .object _ => true
  | 2, .array _ => true
  | _, _ => false
theorem tb_tk_of {f : Nat} {t : FieldType} (h : tb_tk f t = true) : (f % 10 = 0 ∧ t = .int) ∨ (f % 10 = 1 ∧ t = .boolean) ∨ (f % 10 = 2 ∧ ((∃ n, t = .object n) ∨ ∃ u, t = .array u)) := by
  unfold tb_tk at h
  split at h
  · rename_i hf
    exact Or.inl ⟨hf, rfl⟩
  · rename_i hf
    exact Or.inr (Or.inl ⟨hf, rfl⟩)
  · rename_i hf
    exact Or.inr (Or.inr ⟨hf, Or.inl ⟨_, rfl⟩⟩)
  · rename_i hf
    exact Or.inr (Or.inr ⟨hf, Or.inr ⟨_, rfl⟩⟩)
  · cases h
def tb_k1 (ci k : Nat) : Bool := tb_at ((tb_cp ci).2.2.getD k 0) (u_lay (tb_own ci) (tb_T ci) k)
def tb_k2 (ci k : Nat) : Bool := decide (parseFieldDescriptor (tb_T ci k).2.2.1 = some (tb_ty ci k)) && decide ((tb_T ci k).1 = tb_own ci) && tb_tk (tb_ft ci k) (tb_ty ci k) && decide ((tb_T ci k).2.2.2 = decide (10 ≤ tb_ft ci k))
def tb_k3 (ci : Nat) : Bool := (List.range (tb_nf ci)).all fun a => (List.range (tb_nf ci)).all fun b => decide (a = b) || decide ((tb_T ci a).2.1 ≠ (tb_T ci b).2.1)
set_option maxRecDepth 100000 in
theorem tb_ka0 : (List.range (tb_nf 0)).all (tb_k1 0) = true := by decide +kernel
set_option maxRecDepth 100000 in
theorem tb_kb0 : (List.range (tb_nf 0)).all (tb_k2 0) = true := by decide +kernel
set_option maxRecDepth 100000 in
theorem tb_kd0 : tb_k3 0 = true := by decide +kernel
set_option maxRecDepth 100000 in
theorem tb_ka1 : (List.range (tb_nf 1)).all (tb_k1 1) = true := by decide +kernel
set_option maxRecDepth 100000 in
theorem tb_kb1 : (List.range (tb_nf 1)).all (tb_k2 1) = true := by decide +kernel
set_option maxRecDepth 100000 in
theorem tb_kd1 : tb_k3 1 = true := by decide +kernel
set_option maxRecDepth 100000 in
theorem tb_ka2 : (List.range (tb_nf 2)).all (tb_k1 2) = true := by decide +kernel
set_option maxRecDepth 100000 in
theorem tb_kb2 : (List.range (tb_nf 2)).all (tb_k2 2) = true := by decide +kernel
set_option maxRecDepth 100000 in
theorem tb_kd2 : tb_k3 2 = true := by decide +kernel
set_option maxRecDepth 100000 in
theorem tb_ka3 : (List.range (tb_nf 3)).all (tb_k1 3) = true := by decide +kernel
set_option maxRecDepth 100000 in
theorem tb_kb3 : (List.range (tb_nf 3)).all (tb_k2 3) = true := by decide +kernel
set_option maxRecDepth 100000 in
theorem tb_kd3 : tb_k3 3 = true := by decide +kernel
set_option maxRecDepth 100000 in
theorem tb_ka4 : (List.range (tb_nf 4)).all (tb_k1 4) = true := by decide +kernel
set_option maxRecDepth 100000 in
theorem tb_kb4 : (List.range (tb_nf 4)).all (tb_k2 4) = true := by decide +kernel
set_option maxRecDepth 100000 in
theorem tb_kd4 : tb_k3 4 = true := by decide +kernel
set_option maxRecDepth 100000 in
theorem tb_ka5 : (List.range (tb_nf 5)).all (tb_k1 5) = true := by decide +kernel
set_option maxRecDepth 100000 in
theorem tb_kb5 : (List.range (tb_nf 5)).all (tb_k2 5) = true := by decide +kernel
set_option maxRecDepth 100000 in
theorem tb_kd5 : tb_k3 5 = true := by decide +kernel
set_option maxRecDepth 100000 in
theorem tb_ka6 : (List.range (tb_nf 6)).all (tb_k1 6) = true := by decide +kernel
set_option maxRecDepth 100000 in
theorem tb_kb6 : (List.range (tb_nf 6)).all (tb_k2 6) = true := by decide +kernel
set_option maxRecDepth 100000 in
theorem tb_kd6 : tb_k3 6 = true := by decide +kernel
set_option maxRecDepth 100000 in
theorem tb_ka7 : (List.range (tb_nf 7)).all (tb_k1 7) = true := by decide +kernel
set_option maxRecDepth 100000 in
theorem tb_kb7 : (List.range (tb_nf 7)).all (tb_k2 7) = true := by decide +kernel
set_option maxRecDepth 100000 in
theorem tb_kd7 : tb_k3 7 = true := by decide +kernel
set_option maxRecDepth 100000 in
theorem tb_ka8 : (List.range (tb_nf 8)).all (tb_k1 8) = true := by decide +kernel
set_option maxRecDepth 100000 in
theorem tb_kb8 : (List.range (tb_nf 8)).all (tb_k2 8) = true := by decide +kernel
set_option maxRecDepth 100000 in
theorem tb_kd8 : tb_k3 8 = true := by decide +kernel
set_option maxRecDepth 100000 in
theorem tb_ka9 : (List.range (tb_nf 9)).all (tb_k1 9) = true := by decide +kernel
set_option maxRecDepth 100000 in
theorem tb_kb9 : (List.range (tb_nf 9)).all (tb_k2 9) = true := by decide +kernel
set_option maxRecDepth 100000 in
theorem tb_kd9 : tb_k3 9 = true := by decide +kernel
set_option maxRecDepth 100000 in
theorem tb_ka10 : (List.range (tb_nf 10)).all (tb_k1 10) = true := by decide +kernel
set_option maxRecDepth 100000 in
theorem tb_kb10 : (List.range (tb_nf 10)).all (tb_k2 10) = true := by decide +kernel
set_option maxRecDepth 100000 in
theorem tb_kd10 : tb_k3 10 = true := by decide +kernel
set_option maxRecDepth 100000 in
theorem tb_ka11 : (List.range (tb_nf 11)).all (tb_k1 11) = true := by decide +kernel
set_option maxRecDepth 100000 in
theorem tb_kb11 : (List.range (tb_nf 11)).all (tb_k2 11) = true := by decide +kernel
set_option maxRecDepth 100000 in
theorem tb_kd11 : tb_k3 11 = true := by decide +kernel
theorem tb_acl {ci : Nat} (hc : tb_cl[ci]? = some (tb_own ci, tb_T ci, tb_nf ci)) (h0 : ci < 12) (h1 : (List.range (tb_nf ci)).all (tb_k1 ci) = true) (h2 : (List.range (tb_nf ci)).all (tb_k2 ci) = true) (h3 : tb_k3 ci = true) : am_ok tb_G tb_cl tb_own tb_ws ci := by
  rw [List.all_eq_true] at h1 h2
  unfold tb_k3 at h3
  rw [List.all_eq_true] at h3
  have h2' : ∀ k, k < tb_nf ci → parseFieldDescriptor (tb_T ci k).2.2.1 = some (tb_ty ci k) ∧ (tb_T ci k).1 = tb_own ci ∧ tb_tk (tb_ft ci k) (tb_ty ci k) = true ∧ (tb_T ci k).2.2.2 = decide (10 ≤ tb_ft ci k) := fun k hk => by
    have := h2 k (List.mem_range.mpr hk)
    unfold tb_k2 at this
    rw [Bool.and_eq_true, Bool.and_eq_true, Bool.and_eq_true] at this
    exact ⟨of_decide_eq_true this.1.1.1, of_decide_eq_true this.1.1.2, this.1.2, of_decide_eq_true this.2⟩
  refine ⟨tb_T ci, tb_ty ci, hc, by omega, fun w hw => ?_, fun k hk => (h2' k hk).1, fun a ha b hb hab => ?_, fun k hk => (h2' k hk).2.1, fun k hk => tb_tk_of (h2' k hk).2.2.1, fun k hk => (h2' k hk).2.2.2, fun o idx fi hp hfi => ?_⟩
  · obtain ⟨k, hk, rfl⟩ := List.mem_map.mp hw
    exact tb_mem (h1 k hk)
  · have := h3 a (List.mem_range.mpr ha)
    rw [List.all_eq_true] at this
    have := this b (List.mem_range.mpr hb)
    rw [Bool.or_eq_true] at this
    rcases this with h | h
    · exact absurd (of_decide_eq_true h) hab
    · exact of_decide_eq_true h
  · obtain ⟨q, hq⟩ := tb_get (e := (1, ci, fi, 0)) hp (by show (1 : Nat) ≠ 0; decide)
    have hq : (decide (ci < 12) && tb_at q (.fieldLink (tb_own o) idx (tb_own ci) (tb_T ci fi).2.1 (tb_T ci fi).2.2.1)) = true := hq
    rw [Bool.and_eq_true] at hq
    exact tb_mem hq.2
theorem tb_aok {ci : Nat} (h : ci < 12) : am_ok tb_G tb_cl tb_own tb_ws ci := match ci, h with
  | 0, h => tb_acl rfl h tb_ka0 tb_kb0 tb_kd0
  | 1, h => tb_acl rfl h tb_ka1 tb_kb1 tb_kd1
  | 2, h => tb_acl rfl h tb_ka2 tb_kb2 tb_kd2
  | 3, h => tb_acl rfl h tb_ka3 tb_kb3 tb_kd3
  | 4, h => tb_acl rfl h tb_ka4 tb_kb4 tb_kd4
  | 5, h => tb_acl rfl h tb_ka5 tb_kb5 tb_kd5
  | 6, h => tb_acl rfl h tb_ka6 tb_kb6 tb_kd6
  | 7, h => tb_acl rfl h tb_ka7 tb_kb7 tb_kd7
  | 8, h => tb_acl rfl h tb_ka8 tb_kb8 tb_kd8
  | 9, h => tb_acl rfl h tb_ka9 tb_kb9 tb_kd9
  | 10, h => tb_acl rfl h tb_ka10 tb_kb10 tb_kd10
  | 11, h => tb_acl rfl h tb_ka11 tb_kb11 tb_kd11
  | n + 12, h => absurd h (by omega)
theorem tb_clo {ci : Nat} (h : ci < 12) : ∃ T, tb_cl[ci]? = some (tb_own ci, T, tb_nf ci) := match ci, h with
  | 0, _ => ⟨_, rfl⟩
  | 1, _ => ⟨_, rfl⟩
  | 2, _ => ⟨_, rfl⟩
  | 3, _ => ⟨_, rfl⟩
  | 4, _ => ⟨_, rfl⟩
  | 5, _ => ⟨_, rfl⟩
  | 6, _ => ⟨_, rfl⟩
  | 7, _ => ⟨_, rfl⟩
  | 8, _ => ⟨_, rfl⟩
  | 9, _ => ⟨_, rfl⟩
  | 10, _ => ⟨_, rfl⟩
  | 11, _ => ⟨_, rfl⟩
  | n + 12, h => absurd h (by omega)
theorem tb_s0 : Cond.instanceMethod Lib.objectInit ∈ tb_ws := tb_spw (k := 0) (by decide +kernel)
theorem tb_s1 : Cond.code Lib.objectInit ⟨#[0xb1]⟩ 1 none ∈ tb_ws := tb_mem2 (k := 1) (i := 30) rfl rfl
theorem tb_s2 : Cond.native arraycopyName ∈ tb_ws := tb_spw (k := 2) (by decide +kernel)
theorem tb_s3 : Cond.static arraycopyName ∈ tb_ws := tb_spw (k := 3) (by decide +kernel)
theorem tb_s4 : Cond.initialized "java/lang/System" ∈ tb_ws := tb_spw (k := 4) (by decide +kernel)
theorem tb_s5 : Cond.static Lib.Math.min.name ∈ tb_ws := tb_spw (k := 5) (by decide +kernel)
theorem tb_s6 : Cond.code Lib.Math.min.name Lib.Math.min.code 2 (some .int) ∈ tb_ws := tb_mem2 (k := 3) (i := 44) rfl rfl
theorem tb_s7 : Cond.static Lib.Math.max.name ∈ tb_ws := tb_spw (k := 7) (by decide +kernel)
theorem tb_s8 : Cond.code Lib.Math.max.name Lib.Math.max.code 2 (some .int) ∈ tb_ws := tb_mem2 (k := 3) (i := 212) rfl rfl
theorem tb_s9 : Cond.initialized "java/lang/Math" ∈ tb_ws := tb_spw (k := 9) (by decide +kernel)
theorem tb_s10 : Cond.arrayOver (.object (tb_own 7)) ∈ tb_ws := tb_spw (k := 10) (by decide +kernel)
theorem tb_s11 : Cond.arrayOver (.object (tb_own 0)) ∈ tb_ws := tb_spw (k := 11) (by decide +kernel)
theorem tb_s12 : Cond.arrayClass (newarray.typeOf .int) ∈ tb_ws := tb_spw (k := 12) (by decide +kernel)
theorem tb_s13 : Cond.arrayClass (newarray.typeOf .boolean) ∈ tb_ws := tb_spw (k := 13) (by decide +kernel)
theorem tb_s14 : Cond.arrayClass (newarray.typeOf .long) ∈ tb_ws := tb_spw (k := 14) (by decide +kernel)
theorem tb_sc {x : Nat} (h : x < 4) : Cond.castable (tb_xn x) (tb_xn x) ∈ tb_ws := match x, h with
  | 0, _ => tb_spw (k := 15) (by decide +kernel)
  | 1, _ => tb_spw (k := 16) (by decide +kernel)
  | 2, _ => tb_spw (k := 17) (by decide +kernel)
  | 3, _ => tb_spw (k := 18) (by decide +kernel)
  | n + 4, h => absurd h (by omega)
theorem tb_si {x : Nat} (h : x < 4) : Cond.initialized (tb_xn x) ∈ tb_ws := match x, h with
  | 0, _ => tb_spw (k := 19) (by decide +kernel)
  | 1, _ => tb_spw (k := 20) (by decide +kernel)
  | 2, _ => tb_spw (k := 21) (by decide +kernel)
  | 3, _ => tb_spw (k := 22) (by decide +kernel)
  | n + 4, h => absurd h (by omega)
theorem tb_alc {w : Cond} {ws : List Cond} (h : w ∈ tb_ws ∨ w ∈ am_zw) (t : ∀ w ∈ ws, w ∈ tb_ws ∨ w ∈ am_zw) : ∀ w' ∈ w :: ws, w' ∈ tb_ws ∨ w' ∈ am_zw := fun w' hw => by
  rcases List.mem_cons.mp hw with e | e
  · subst e; exact h
  · exact t w' e
theorem tb_aln : ∀ w' ∈ ([] : List Cond), w' ∈ tb_ws ∨ w' ∈ am_zw := fun _ h => nomatch h
theorem tb_ex0 : ∀ w ∈ Bundle.ownAtoms0 (tb_own 10) 69 (tb_xn 0) ["java/lang/RuntimeException", "java/lang/Exception"], w ∈ tb_ws ∨ w ∈ am_zw := 
  tb_alc (Or.inl (tb_mem2 (k := 1) (i := 15) rfl rfl)) <|
  tb_alc (Or.inl (tb_mem2 (k := 2) (i := 162) rfl rfl)) <|
  tb_alc (Or.inl (tb_mem2 (k := 2) (i := 171) rfl rfl)) <|
  tb_alc (Or.inl (tb_mem2 (k := 2) (i := 176) rfl rfl)) <|
  tb_alc (Or.inl (tb_mem2 (k := 2) (i := 179) rfl rfl)) <|
  tb_alc (Or.inl (tb_mem2 (k := 2) (i := 181) rfl rfl)) <|
  tb_alc (Or.inl (tb_mem2 (k := 2) (i := 163) rfl rfl)) <|
  tb_alc (Or.inl (tb_mem2 (k := 2) (i := 164) rfl rfl)) <|
  tb_alc (Or.inl (tb_mem2 (k := 1) (i := 29) rfl rfl)) <|
  tb_alc (Or.inl (tb_mem2 (k := 1) (i := 30) rfl rfl)) <|
  tb_alc (Or.inl (tb_mem2 (k := 2) (i := 165) rfl rfl)) <|
  tb_alc (Or.inl (tb_mem2 (k := 2) (i := 170) rfl rfl)) <|
  tb_alc (Or.inl (tb_mem2 (k := 2) (i := 177) rfl rfl)) <|
  tb_alc (Or.inl (tb_mem2 (k := 2) (i := 193) rfl rfl)) <|
  tb_alc (Or.inl (tb_mem2 (k := 2) (i := 152) rfl rfl)) <|
  tb_alc (Or.inl (tb_mem2 (k := 2) (i := 194) rfl rfl)) <|
  tb_alc (Or.inl (tb_mem2 (k := 2) (i := 154) rfl rfl)) <|
  tb_alc (Or.inl (tb_mem2 (k := 2) (i := 195) rfl rfl)) <|
  tb_alc (Or.inl (tb_mem2 (k := 2) (i := 156) rfl rfl)) <|
  tb_alc (Or.inl (tb_mem2 (k := 2) (i := 166) rfl rfl)) <|
  tb_alc (Or.inr (by first | exact .head _ | exact .tail _ (.head _) | exact .tail _ (.tail _ (.head _)) | exact .tail _ (.tail _ (.tail _ (.head _))))) <|
  tb_alc (Or.inl (tb_mem2 (k := 2) (i := 168) rfl rfl)) <|
  tb_alc (Or.inr (by first | exact .head _ | exact .tail _ (.head _) | exact .tail _ (.tail _ (.head _)) | exact .tail _ (.tail _ (.tail _ (.head _))))) <|
  tb_alc (Or.inl (tb_mem2 (k := 2) (i := 158) rfl rfl)) <|
  tb_alc (Or.inl (tb_mem2 (k := 2) (i := 183) rfl rfl)) <|
  tb_alc (Or.inl (tb_mem2 (k := 2) (i := 184) rfl rfl)) <|
  tb_alc (Or.inl (tb_mem2 (k := 2) (i := 185) rfl rfl)) <|
  tb_alc (Or.inl (tb_mem2 (k := 2) (i := 186) rfl rfl)) <|
  tb_alc (Or.inl (tb_mem2 (k := 2) (i := 143) rfl rfl)) <|
  tb_alc (Or.inl (tb_mem2 (k := 2) (i := 186) rfl rfl)) <|
  tb_alc (Or.inl (tb_mem2 (k := 2) (i := 187) rfl rfl)) <|
  tb_alc (Or.inl (tb_mem2 (k := 2) (i := 188) rfl rfl)) <|
  tb_alc (Or.inl (tb_mem2 (k := 2) (i := 189) rfl rfl)) <|
  tb_alc (Or.inl (tb_mem2 (k := 2) (i := 145) rfl rfl)) <|
  tb_alc (Or.inl (tb_mem2 (k := 2) (i := 189) rfl rfl)) <|
  tb_alc (Or.inl (tb_mem2 (k := 2) (i := 190) rfl rfl)) <|
  tb_alc (Or.inl (tb_mem2 (k := 2) (i := 191) rfl rfl)) <|
  tb_alc (Or.inl (tb_mem2 (k := 2) (i := 163) rfl rfl)) <|
  tb_alc (Or.inl (tb_mem2 (k := 2) (i := 147) rfl rfl)) <|
  tb_alc (Or.inl (tb_mem2 (k := 2) (i := 182) rfl rfl)) <|
  tb_alc (Or.inl (tb_mem2 (k := 2) (i := 141) rfl rfl)) <|
  tb_alc (Or.inl (tb_mem2 (k := 2) (i := 142) rfl rfl)) <|
  tb_alc (Or.inl (tb_mem2 (k := 2) (i := 149) rfl rfl)) <|
  tb_alc (Or.inl (tb_mem2 (k := 2) (i := 150) rfl rfl)) <|
  tb_alc (Or.inl (tb_mem2 (k := 2) (i := 151) rfl rfl)) <|
  tb_alc (Or.inl (tb_mem2 (k := 2) (i := 153) rfl rfl)) <|
  tb_alc (Or.inl (tb_mem2 (k := 2) (i := 155) rfl rfl)) <|
  tb_alc (Or.inl (tb_mem2 (k := 2) (i := 157) rfl rfl)) <|
  tb_alc (Or.inr (by first | exact .head _ | exact .tail _ (.head _) | exact .tail _ (.tail _ (.head _)) | exact .tail _ (.tail _ (.tail _ (.head _))))) <|
  tb_alc (Or.inr (by first | exact .head _ | exact .tail _ (.head _) | exact .tail _ (.tail _ (.head _)) | exact .tail _ (.tail _ (.tail _ (.head _))))) <|
  tb_alc (Or.inl (tb_mem2 (k := 2) (i := 161) rfl rfl)) <|
  tb_alc (Or.inl (tb_mem2 (k := 2) (i := 160) rfl rfl)) <|
  tb_alc (Or.inl (tb_mem2 (k := 2) (i := 159) rfl rfl)) <|
  tb_aln
theorem tb_ex1 : ∀ w ∈ Bundle.ownAtoms0 (tb_own 10) 76 (tb_xn 1) ["java/lang/RuntimeException", "java/lang/Exception"], w ∈ tb_ws ∨ w ∈ am_zw := 
  tb_alc (Or.inl (tb_mem2 (k := 1) (i := 15) rfl rfl)) <|
  tb_alc (Or.inl (tb_mem2 (k := 2) (i := 162) rfl rfl)) <|
  tb_alc (Or.inl (tb_mem2 (k := 2) (i := 171) rfl rfl)) <|
  tb_alc (Or.inl (tb_mem2 (k := 2) (i := 176) rfl rfl)) <|
  tb_alc (Or.inl (tb_mem2 (k := 2) (i := 179) rfl rfl)) <|
  tb_alc (Or.inl (tb_mem2 (k := 2) (i := 181) rfl rfl)) <|
  tb_alc (Or.inl (tb_mem2 (k := 2) (i := 163) rfl rfl)) <|
  tb_alc (Or.inl (tb_mem2 (k := 2) (i := 164) rfl rfl)) <|
  tb_alc (Or.inl (tb_mem2 (k := 1) (i := 29) rfl rfl)) <|
  tb_alc (Or.inl (tb_mem2 (k := 1) (i := 30) rfl rfl)) <|
  tb_alc (Or.inl (tb_mem2 (k := 2) (i := 165) rfl rfl)) <|
  tb_alc (Or.inl (tb_mem2 (k := 2) (i := 170) rfl rfl)) <|
  tb_alc (Or.inl (tb_mem2 (k := 2) (i := 177) rfl rfl)) <|
  tb_alc (Or.inl (tb_mem2 (k := 2) (i := 193) rfl rfl)) <|
  tb_alc (Or.inl (tb_mem2 (k := 2) (i := 152) rfl rfl)) <|
  tb_alc (Or.inl (tb_mem2 (k := 2) (i := 194) rfl rfl)) <|
  tb_alc (Or.inl (tb_mem2 (k := 2) (i := 154) rfl rfl)) <|
  tb_alc (Or.inl (tb_mem2 (k := 2) (i := 195) rfl rfl)) <|
  tb_alc (Or.inl (tb_mem2 (k := 2) (i := 156) rfl rfl)) <|
  tb_alc (Or.inl (tb_mem2 (k := 2) (i := 166) rfl rfl)) <|
  tb_alc (Or.inr (by first | exact .head _ | exact .tail _ (.head _) | exact .tail _ (.tail _ (.head _)) | exact .tail _ (.tail _ (.tail _ (.head _))))) <|
  tb_alc (Or.inl (tb_mem2 (k := 2) (i := 168) rfl rfl)) <|
  tb_alc (Or.inr (by first | exact .head _ | exact .tail _ (.head _) | exact .tail _ (.tail _ (.head _)) | exact .tail _ (.tail _ (.tail _ (.head _))))) <|
  tb_alc (Or.inl (tb_mem2 (k := 2) (i := 158) rfl rfl)) <|
  tb_alc (Or.inl (tb_mem2 (k := 2) (i := 218) rfl rfl)) <|
  tb_alc (Or.inl (tb_mem2 (k := 2) (i := 219) rfl rfl)) <|
  tb_alc (Or.inl (tb_mem2 (k := 2) (i := 220) rfl rfl)) <|
  tb_alc (Or.inl (tb_mem2 (k := 2) (i := 186) rfl rfl)) <|
  tb_alc (Or.inl (tb_mem2 (k := 2) (i := 143) rfl rfl)) <|
  tb_alc (Or.inl (tb_mem2 (k := 2) (i := 186) rfl rfl)) <|
  tb_alc (Or.inl (tb_mem2 (k := 2) (i := 187) rfl rfl)) <|
  tb_alc (Or.inl (tb_mem2 (k := 2) (i := 188) rfl rfl)) <|
  tb_alc (Or.inl (tb_mem2 (k := 2) (i := 189) rfl rfl)) <|
  tb_alc (Or.inl (tb_mem2 (k := 2) (i := 145) rfl rfl)) <|
  tb_alc (Or.inl (tb_mem2 (k := 2) (i := 189) rfl rfl)) <|
  tb_alc (Or.inl (tb_mem2 (k := 2) (i := 190) rfl rfl)) <|
  tb_alc (Or.inl (tb_mem2 (k := 2) (i := 191) rfl rfl)) <|
  tb_alc (Or.inl (tb_mem2 (k := 2) (i := 163) rfl rfl)) <|
  tb_alc (Or.inl (tb_mem2 (k := 2) (i := 147) rfl rfl)) <|
  tb_alc (Or.inl (tb_mem2 (k := 2) (i := 217) rfl rfl)) <|
  tb_alc (Or.inl (tb_mem2 (k := 2) (i := 209) rfl rfl)) <|
  tb_alc (Or.inl (tb_mem2 (k := 2) (i := 210) rfl rfl)) <|
  tb_alc (Or.inl (tb_mem2 (k := 2) (i := 211) rfl rfl)) <|
  tb_alc (Or.inl (tb_mem2 (k := 2) (i := 173) rfl rfl)) <|
  tb_alc (Or.inl (tb_mem2 (k := 2) (i := 212) rfl rfl)) <|
  tb_alc (Or.inl (tb_mem2 (k := 2) (i := 213) rfl rfl)) <|
  tb_alc (Or.inl (tb_mem2 (k := 2) (i := 214) rfl rfl)) <|
  tb_alc (Or.inl (tb_mem2 (k := 2) (i := 215) rfl rfl)) <|
  tb_alc (Or.inr (by first | exact .head _ | exact .tail _ (.head _) | exact .tail _ (.tail _ (.head _)) | exact .tail _ (.tail _ (.tail _ (.head _))))) <|
  tb_alc (Or.inr (by first | exact .head _ | exact .tail _ (.head _) | exact .tail _ (.tail _ (.head _)) | exact .tail _ (.tail _ (.tail _ (.head _))))) <|
  tb_alc (Or.inl (tb_mem2 (k := 2) (i := 161) rfl rfl)) <|
  tb_alc (Or.inl (tb_mem2 (k := 2) (i := 160) rfl rfl)) <|
  tb_alc (Or.inl (tb_mem2 (k := 2) (i := 216) rfl rfl)) <|
  tb_aln
theorem tb_ex2 : ∀ w ∈ Bundle.ownAtoms0 (tb_own 10) 136 (tb_xn 2) ["java/lang/RuntimeException", "java/lang/Exception"], w ∈ tb_ws ∨ w ∈ am_zw := 
  tb_alc (Or.inl (tb_mem2 (k := 1) (i := 15) rfl rfl)) <|
  tb_alc (Or.inl (tb_mem2 (k := 2) (i := 162) rfl rfl)) <|
  tb_alc (Or.inl (tb_mem2 (k := 2) (i := 171) rfl rfl)) <|
  tb_alc (Or.inl (tb_mem2 (k := 2) (i := 176) rfl rfl)) <|
  tb_alc (Or.inl (tb_mem2 (k := 2) (i := 179) rfl rfl)) <|
  tb_alc (Or.inl (tb_mem2 (k := 2) (i := 181) rfl rfl)) <|
  tb_alc (Or.inl (tb_mem2 (k := 2) (i := 163) rfl rfl)) <|
  tb_alc (Or.inl (tb_mem2 (k := 2) (i := 164) rfl rfl)) <|
  tb_alc (Or.inl (tb_mem2 (k := 1) (i := 29) rfl rfl)) <|
  tb_alc (Or.inl (tb_mem2 (k := 1) (i := 30) rfl rfl)) <|
  tb_alc (Or.inl (tb_mem2 (k := 2) (i := 165) rfl rfl)) <|
  tb_alc (Or.inl (tb_mem2 (k := 2) (i := 170) rfl rfl)) <|
  tb_alc (Or.inl (tb_mem2 (k := 2) (i := 177) rfl rfl)) <|
  tb_alc (Or.inl (tb_mem2 (k := 2) (i := 193) rfl rfl)) <|
  tb_alc (Or.inl (tb_mem2 (k := 2) (i := 152) rfl rfl)) <|
  tb_alc (Or.inl (tb_mem2 (k := 2) (i := 194) rfl rfl)) <|
  tb_alc (Or.inl (tb_mem2 (k := 2) (i := 154) rfl rfl)) <|
  tb_alc (Or.inl (tb_mem2 (k := 2) (i := 195) rfl rfl)) <|
  tb_alc (Or.inl (tb_mem2 (k := 2) (i := 156) rfl rfl)) <|
  tb_alc (Or.inl (tb_mem2 (k := 2) (i := 166) rfl rfl)) <|
  tb_alc (Or.inr (by first | exact .head _ | exact .tail _ (.head _) | exact .tail _ (.tail _ (.head _)) | exact .tail _ (.tail _ (.tail _ (.head _))))) <|
  tb_alc (Or.inl (tb_mem2 (k := 2) (i := 168) rfl rfl)) <|
  tb_alc (Or.inr (by first | exact .head _ | exact .tail _ (.head _) | exact .tail _ (.tail _ (.head _)) | exact .tail _ (.tail _ (.tail _ (.head _))))) <|
  tb_alc (Or.inl (tb_mem2 (k := 2) (i := 158) rfl rfl)) <|
  tb_alc (Or.inl (tb_mem2 (k := 4) (i := 129) rfl rfl)) <|
  tb_alc (Or.inl (tb_mem2 (k := 4) (i := 130) rfl rfl)) <|
  tb_alc (Or.inl (tb_mem2 (k := 4) (i := 131) rfl rfl)) <|
  tb_alc (Or.inl (tb_mem2 (k := 2) (i := 186) rfl rfl)) <|
  tb_alc (Or.inl (tb_mem2 (k := 2) (i := 143) rfl rfl)) <|
  tb_alc (Or.inl (tb_mem2 (k := 2) (i := 186) rfl rfl)) <|
  tb_alc (Or.inl (tb_mem2 (k := 2) (i := 187) rfl rfl)) <|
  tb_alc (Or.inl (tb_mem2 (k := 2) (i := 188) rfl rfl)) <|
  tb_alc (Or.inl (tb_mem2 (k := 2) (i := 189) rfl rfl)) <|
  tb_alc (Or.inl (tb_mem2 (k := 2) (i := 145) rfl rfl)) <|
  tb_alc (Or.inl (tb_mem2 (k := 2) (i := 189) rfl rfl)) <|
  tb_alc (Or.inl (tb_mem2 (k := 2) (i := 190) rfl rfl)) <|
  tb_alc (Or.inl (tb_mem2 (k := 2) (i := 191) rfl rfl)) <|
  tb_alc (Or.inl (tb_mem2 (k := 2) (i := 163) rfl rfl)) <|
  tb_alc (Or.inl (tb_mem2 (k := 2) (i := 147) rfl rfl)) <|
  tb_alc (Or.inl (tb_mem2 (k := 4) (i := 128) rfl rfl)) <|
  tb_alc (Or.inl (tb_mem2 (k := 4) (i := 120) rfl rfl)) <|
  tb_alc (Or.inl (tb_mem2 (k := 4) (i := 121) rfl rfl)) <|
  tb_alc (Or.inl (tb_mem2 (k := 4) (i := 122) rfl rfl)) <|
  tb_alc (Or.inl (tb_mem2 (k := 2) (i := 175) rfl rfl)) <|
  tb_alc (Or.inl (tb_mem2 (k := 4) (i := 123) rfl rfl)) <|
  tb_alc (Or.inl (tb_mem2 (k := 4) (i := 124) rfl rfl)) <|
  tb_alc (Or.inl (tb_mem2 (k := 4) (i := 125) rfl rfl)) <|
  tb_alc (Or.inl (tb_mem2 (k := 4) (i := 126) rfl rfl)) <|
  tb_alc (Or.inr (by first | exact .head _ | exact .tail _ (.head _) | exact .tail _ (.tail _ (.head _)) | exact .tail _ (.tail _ (.tail _ (.head _))))) <|
  tb_alc (Or.inr (by first | exact .head _ | exact .tail _ (.head _) | exact .tail _ (.tail _ (.head _)) | exact .tail _ (.tail _ (.tail _ (.head _))))) <|
  tb_alc (Or.inl (tb_mem2 (k := 2) (i := 161) rfl rfl)) <|
  tb_alc (Or.inl (tb_mem2 (k := 2) (i := 160) rfl rfl)) <|
  tb_alc (Or.inl (tb_mem2 (k := 4) (i := 127) rfl rfl)) <|
  tb_aln
theorem tb_ex3 : ∀ w ∈ Bundle.ownAtoms0 (tb_own 10) 182 (tb_xn 3) ["java/lang/RuntimeException", "java/lang/Exception"], w ∈ tb_ws ∨ w ∈ am_zw := 
  tb_alc (Or.inl (tb_mem2 (k := 1) (i := 15) rfl rfl)) <|
  tb_alc (Or.inl (tb_mem2 (k := 2) (i := 162) rfl rfl)) <|
  tb_alc (Or.inl (tb_mem2 (k := 2) (i := 171) rfl rfl)) <|
  tb_alc (Or.inl (tb_mem2 (k := 2) (i := 176) rfl rfl)) <|
  tb_alc (Or.inl (tb_mem2 (k := 2) (i := 179) rfl rfl)) <|
  tb_alc (Or.inl (tb_mem2 (k := 2) (i := 181) rfl rfl)) <|
  tb_alc (Or.inl (tb_mem2 (k := 2) (i := 163) rfl rfl)) <|
  tb_alc (Or.inl (tb_mem2 (k := 2) (i := 164) rfl rfl)) <|
  tb_alc (Or.inl (tb_mem2 (k := 1) (i := 29) rfl rfl)) <|
  tb_alc (Or.inl (tb_mem2 (k := 1) (i := 30) rfl rfl)) <|
  tb_alc (Or.inl (tb_mem2 (k := 2) (i := 165) rfl rfl)) <|
  tb_alc (Or.inl (tb_mem2 (k := 2) (i := 170) rfl rfl)) <|
  tb_alc (Or.inl (tb_mem2 (k := 2) (i := 177) rfl rfl)) <|
  tb_alc (Or.inl (tb_mem2 (k := 2) (i := 193) rfl rfl)) <|
  tb_alc (Or.inl (tb_mem2 (k := 2) (i := 152) rfl rfl)) <|
  tb_alc (Or.inl (tb_mem2 (k := 2) (i := 194) rfl rfl)) <|
  tb_alc (Or.inl (tb_mem2 (k := 2) (i := 154) rfl rfl)) <|
  tb_alc (Or.inl (tb_mem2 (k := 2) (i := 195) rfl rfl)) <|
  tb_alc (Or.inl (tb_mem2 (k := 2) (i := 156) rfl rfl)) <|
  tb_alc (Or.inl (tb_mem2 (k := 2) (i := 166) rfl rfl)) <|
  tb_alc (Or.inr (by first | exact .head _ | exact .tail _ (.head _) | exact .tail _ (.tail _ (.head _)) | exact .tail _ (.tail _ (.tail _ (.head _))))) <|
  tb_alc (Or.inl (tb_mem2 (k := 2) (i := 168) rfl rfl)) <|
  tb_alc (Or.inr (by first | exact .head _ | exact .tail _ (.head _) | exact .tail _ (.tail _ (.head _)) | exact .tail _ (.tail _ (.tail _ (.head _))))) <|
  tb_alc (Or.inl (tb_mem2 (k := 2) (i := 158) rfl rfl)) <|
  tb_alc (Or.inl (tb_mem2 (k := 4) (i := 159) rfl rfl)) <|
  tb_alc (Or.inl (tb_mem2 (k := 4) (i := 160) rfl rfl)) <|
  tb_alc (Or.inl (tb_mem2 (k := 4) (i := 161) rfl rfl)) <|
  tb_alc (Or.inl (tb_mem2 (k := 2) (i := 186) rfl rfl)) <|
  tb_alc (Or.inl (tb_mem2 (k := 2) (i := 143) rfl rfl)) <|
  tb_alc (Or.inl (tb_mem2 (k := 2) (i := 186) rfl rfl)) <|
  tb_alc (Or.inl (tb_mem2 (k := 2) (i := 187) rfl rfl)) <|
  tb_alc (Or.inl (tb_mem2 (k := 2) (i := 188) rfl rfl)) <|
  tb_alc (Or.inl (tb_mem2 (k := 2) (i := 189) rfl rfl)) <|
  tb_alc (Or.inl (tb_mem2 (k := 2) (i := 145) rfl rfl)) <|
  tb_alc (Or.inl (tb_mem2 (k := 2) (i := 189) rfl rfl)) <|
  tb_alc (Or.inl (tb_mem2 (k := 2) (i := 190) rfl rfl)) <|
  tb_alc (Or.inl (tb_mem2 (k := 2) (i := 191) rfl rfl)) <|
  tb_alc (Or.inl (tb_mem2 (k := 2) (i := 163) rfl rfl)) <|
  tb_alc (Or.inl (tb_mem2 (k := 2) (i := 147) rfl rfl)) <|
  tb_alc (Or.inl (tb_mem2 (k := 4) (i := 158) rfl rfl)) <|
  tb_alc (Or.inl (tb_mem2 (k := 4) (i := 150) rfl rfl)) <|
  tb_alc (Or.inl (tb_mem2 (k := 4) (i := 151) rfl rfl)) <|
  tb_alc (Or.inl (tb_mem2 (k := 4) (i := 152) rfl rfl)) <|
  tb_alc (Or.inl (tb_mem2 (k := 2) (i := 174) rfl rfl)) <|
  tb_alc (Or.inl (tb_mem2 (k := 4) (i := 153) rfl rfl)) <|
  tb_alc (Or.inl (tb_mem2 (k := 4) (i := 154) rfl rfl)) <|
  tb_alc (Or.inl (tb_mem2 (k := 4) (i := 155) rfl rfl)) <|
  tb_alc (Or.inl (tb_mem2 (k := 4) (i := 156) rfl rfl)) <|
  tb_alc (Or.inr (by first | exact .head _ | exact .tail _ (.head _) | exact .tail _ (.tail _ (.head _)) | exact .tail _ (.tail _ (.tail _ (.head _))))) <|
  tb_alc (Or.inr (by first | exact .head _ | exact .tail _ (.head _) | exact .tail _ (.tail _ (.head _)) | exact .tail _ (.tail _ (.tail _ (.head _))))) <|
  tb_alc (Or.inl (tb_mem2 (k := 2) (i := 161) rfl rfl)) <|
  tb_alc (Or.inl (tb_mem2 (k := 2) (i := 160) rfl rfl)) <|
  tb_alc (Or.inl (tb_mem2 (k := 4) (i := 157) rfl rfl)) <|
  tb_aln
set_option maxRecDepth 100000 in
theorem tb_hk : (List.range 181).all (fun j => (am_hs (tb_mt j)).all fun q => decide ((tb_pl (am_o (tb_mt j)) q.2.2.2).1 = 9)) = true := by decide +kernel
set_option maxRecDepth 100000 in
theorem tb_kk : tb_KC.all (fun q => match q.2.2.1 with | .int x => tb_at q.2.2.2 (.constant (tb_own q.1) q.2.1 x) | .long x => tb_at q.2.2.2 (.constantLong (tb_own q.1) q.2.1 x) | _ => false) = true := by decide +kernel
theorem tb_kcw {o idx : Nat} {v : Value} (h : tb_kc o idx = some v) : match v with | .int x => Cond.constant (tb_own o) idx x ∈ tb_ws | .long x => Cond.constantLong (tb_own o) idx x ∈ tb_ws | _ => False := by
  unfold tb_kc at h
  split at h
  · rename_i q hq
    have h1 := List.mem_of_find?_eq_some hq
    have h2 := List.find?_some hq
    have h3 := List.all_eq_true.mp tb_kk q h1
    obtain ⟨q1, q2, q3, q4⟩ := q
    rw [Bool.and_eq_true] at h2
    have h4 : q1 = o := by simpa using h2.1
    have h5 : q2 = idx := by simpa using h2.2
    cases h
    subst h4
    subst h5
    dsimp only at h3
    split at h3
    · exact tb_mem h3
    · exact tb_mem h3
    · cases h3
  · cases h
theorem tb_hs {j : Nat} {q : Nat × Nat × Nat × Nat} (h : q ∈ am_hs (tb_mt j)) : (tb_pl (am_o (tb_mt j)) q.2.2.2).1 = 9 := by
  by_cases hj : j < 181
  · have := List.all_eq_true.mp tb_hk j (List.mem_range.mpr hj)
    exact of_decide_eq_true (List.all_eq_true.mp this q h)
  · have : tb_mt j = mt_La_law := by
      unfold tb_mt
      have hl : tb_M.length = 181 := by decide +kernel
      rw [List.getD_eq_getElem?_getD, List.getElem?_eq_none (by omega)]
      rfl
    rw [this] at h
    cases h
theorem tb_WF : am_WF tb_G tb_cl tb_own tb_xn "AttributeLink" tb_ws := by
  refine ⟨fun w hw => tb_gw hw, ?_, ?_, ?_, ?_, ⟨tb_s12, tb_s13, tb_s14⟩, fun o idx x h => tb_kcw (v := .int x) h, fun o idx x h => tb_kcw (v := .long x) h, ?_, ?_, ?_, ?_, ?_, ?_, ?_, ?_, ?_, ?_, ?_⟩
  · intro o idx ci fi h
    obtain ⟨q, hq⟩ := tb_get (e := (1, ci, fi, 0)) h (by show (1 : Nat) ≠ 0; decide)
    have hq : (decide (ci < 12) && tb_at q (.fieldLink (tb_own o) idx (tb_own ci) (tb_T ci fi).2.1 (tb_T ci fi).2.2.1)) = true := hq
    rw [Bool.and_eq_true] at hq
    exact tb_aok (of_decide_eq_true hq.1)
  · intro o idx ci x y h
    obtain ⟨q, hq⟩ := tb_get (e := (3, ci, x, y)) h (by show (3 : Nat) ≠ 0; decide)
    have hq : (decide (ci < 12) && tb_at q (.classLink (tb_own o) idx (tb_own ci)) && tb_at (tb_cp ci).1 (.instantiable (tb_own ci) (tb_nf ci)) && tb_at (tb_cp ci).2.1 (.initialized (tb_own ci)) && decide (x = 0 ∨ (x = 103 ∧ ci = 7) ∨ (x = 104 ∧ ci = 0))) = true := hq
    rw [Bool.and_eq_true, Bool.and_eq_true, Bool.and_eq_true, Bool.and_eq_true] at hq
    exact ⟨tb_aok (of_decide_eq_true hq.1.1.1.1), tb_mem hq.1.1.1.2, tb_mem hq.1.1.2, tb_mem hq.1.2⟩
  · intro o idx ci t y h ht
    obtain ⟨q, hq⟩ := tb_get (e := (3, ci, t, y)) h (by show (3 : Nat) ≠ 0; decide)
    have hq : (decide (ci < 12) && tb_at q (.classLink (tb_own o) idx (tb_own ci)) && tb_at (tb_cp ci).1 (.instantiable (tb_own ci) (tb_nf ci)) && tb_at (tb_cp ci).2.1 (.initialized (tb_own ci)) && decide (t = 0 ∨ (t = 103 ∧ ci = 7) ∨ (t = 104 ∧ ci = 0))) = true := hq
    rw [Bool.and_eq_true, Bool.and_eq_true, Bool.and_eq_true, Bool.and_eq_true] at hq
    have hc := tb_mem hq.1.1.1.2
    have hd := of_decide_eq_true hq.2
    rcases ht with rfl | rfl
    · have : ci = 7 := by omega
      subst this
      exact ⟨hc, tb_s10⟩
    · have : ci = 0 := by omega
      subst this
      exact ⟨hc, tb_s11⟩
  · intro t ht
    rcases ht with rfl | rfl
    · exact tb_aok (ci := 7) (by decide)
    · exact tb_aok (ci := 0) (by decide)
  · intro o idx j z h
    obtain ⟨q, hq⟩ := tb_get (e := (2, j, 0, z)) h (by show (2 : Nat) ≠ 0; decide)
    have hq : (decide (j < 180) && decide (am_hs (tb_mt j) = []) && decide (am_o (tb_mt j) < 12) && tb_at q (.methodLink (tb_own o) idx (am_y (tb_mt j))) && tb_at (tb_mp j).2.2.1 (.instanceMethod (am_y (tb_mt j))) && tb_at (tb_mp j).2.2.2 (.selects (am_y (tb_mt j)).cls (am_y (tb_mt j)) (am_y (tb_mt j)))) = true := hq
    rw [Bool.and_eq_true, Bool.and_eq_true, Bool.and_eq_true, Bool.and_eq_true, Bool.and_eq_true] at hq
    have ho : am_o (tb_mt j) < 12 := of_decide_eq_true hq.1.1.1.2
    exact ⟨tb_okm (of_decide_eq_true hq.1.1.1.1.1), of_decide_eq_true hq.1.1.1.1.2, tb_clo ho, (by show am_o (tb_mt j) < 100; omega), tb_mem hq.1.1.2, tb_mem hq.1.2, tb_mem hq.2⟩
  · intro o idx j z h
    obtain ⟨q, hq⟩ := tb_get (e := (2, j, 3, z)) h (by show (2 : Nat) ≠ 0; decide)
    exact absurd hq Bool.false_ne_true
  · intro o idx j z h
    obtain ⟨q, hq⟩ := tb_get (e := (2, j, 1, z)) h (by show (2 : Nat) ≠ 0; decide)
    have hq : (decide (j < 180) && tb_at q (.methodLink (tb_own o) idx (am_y (tb_mt j))) && tb_at (tb_mp j).2.2.1 (.static (am_y (tb_mt j)))) = true := hq
    rw [Bool.and_eq_true, Bool.and_eq_true] at hq
    exact ⟨tb_okm (of_decide_eq_true hq.1.1), tb_mem hq.1.2, tb_mem hq.2⟩
  · intro o idx j z h
    obtain ⟨q, hq⟩ := tb_get (e := (2, j, 4, z)) h (by show (2 : Nat) ≠ 0; decide)
    have hq : (decide (j < 180) && tb_at q (.methodLinkNest (tb_own o) idx (am_y (tb_mt j)) "AttributeLink") && tb_at (tb_mp j).2.2.1 (.static (am_y (tb_mt j)))) = true := hq
    rw [Bool.and_eq_true, Bool.and_eq_true] at hq
    exact ⟨tb_okm (of_decide_eq_true hq.1.1), tb_mem hq.1.2, tb_mem hq.2⟩
  · intro o idx j z h
    obtain ⟨q, hq⟩ := tb_get (e := (2, j, 2, z)) h (by show (2 : Nat) ≠ 0; decide)
    have hq : (decide (j < 180) && decide (am_hs (tb_mt j) = []) && decide (am_rt (tb_mt j) = none) && decide ((am_y (tb_mt j)).name = "<init>") && tb_at q (.methodLink (tb_own o) idx (am_y (tb_mt j))) && tb_at (tb_mp j).2.2.1 (.instanceMethod (am_y (tb_mt j)))) = true := hq
    rw [Bool.and_eq_true, Bool.and_eq_true, Bool.and_eq_true, Bool.and_eq_true, Bool.and_eq_true] at hq
    exact ⟨tb_okm (of_decide_eq_true hq.1.1.1.1.1), of_decide_eq_true hq.1.1.1.1.2, of_decide_eq_true hq.1.1.1.2, of_decide_eq_true hq.1.1.2, tb_mem hq.1.2, tb_mem hq.2⟩
  · intro o idx x y z h
    obtain ⟨q, hq⟩ := tb_get (e := (7, x, y, z)) h (by show (7 : Nat) ≠ 0; decide)
    have hq : tb_at q (.methodLink (tb_own o) idx Lib.objectInit) = true := hq
    exact ⟨tb_mem hq, tb_s0, tb_s1⟩
  · intro o idx x y z h
    obtain ⟨q, hq⟩ := tb_get (e := (8, x, y, z)) h (by show (8 : Nat) ≠ 0; decide)
    have hq : tb_at q (.methodLink (tb_own o) idx arraycopyName) = true := hq
    exact ⟨tb_mem hq, tb_s2, tb_s3, tb_s4⟩
  · intro o idx x y z h
    obtain ⟨q, hq⟩ := tb_get (e := (10, x, y, z)) h (by show (10 : Nat) ≠ 0; decide)
    have hq : tb_at q (.methodLink (tb_own o) idx Lib.Math.min.name) = true := hq
    exact ⟨tb_mem hq, tb_s5, tb_s9, tb_s6⟩
  · intro o idx x y z h
    obtain ⟨q, hq⟩ := tb_get (e := (11, x, y, z)) h (by show (11 : Nat) ≠ 0; decide)
    have hq : tb_at q (.methodLink (tb_own o) idx Lib.Math.max.name) = true := hq
    exact ⟨tb_mem hq, tb_s7, tb_s9, tb_s8⟩
  · intro j q hq
    have h9 : (tb_pl (am_o (tb_mt j)) q.2.2.2).1 = 9 := tb_hs hq
    generalize he : tb_pl (am_o (tb_mt j)) q.2.2.2 = e at h9
    obtain ⟨e1, e2, e3, e4⟩ := e
    dsimp only at h9
    subst h9
    obtain ⟨r, hr⟩ := tb_get he (by show (9 : Nat) ≠ 0; decide)
    have hr : (decide (e2 < 4) && decide (q.2.2.2 ≠ 0) && tb_at r (.classLink (tb_own (am_o (tb_mt j))) q.2.2.2 (tb_xn e2))) = true := hr
    rw [Bool.and_eq_true, Bool.and_eq_true] at hr
    refine ⟨of_decide_eq_true hr.1.2, ?_, ?_, fun x hx => tb_sc hx⟩
    · show Cond.classLink (tb_own (am_o (tb_mt j))) q.2.2.2 (tb_xn (tb_pl (am_o (tb_mt j)) q.2.2.2).2.1) ∈ tb_ws
      rw [he]
      exact tb_mem hr.2
    · show (tb_pl (am_o (tb_mt j)) q.2.2.2).2.1 < 4
      rw [he]
      exact of_decide_eq_true hr.1.1
  · intro o idx x ic z h
    obtain ⟨q, hq⟩ := tb_get (e := (5, x, ic, z)) h (by show (5 : Nat) ≠ 0; decide)
    have hq : (decide (x < 4) && tb_at q (.classLink (tb_own o) idx (tb_xn x)) && Bundle.fit (tb_xn x) && decide (o = 10) && decide ((x = 0 ∧ ic = 69) ∨ (x = 1 ∧ ic = 76) ∨ (x = 2 ∧ ic = 136) ∨ (x = 3 ∧ ic = 182))) = true := hq
    rw [Bool.and_eq_true, Bool.and_eq_true, Bool.and_eq_true, Bool.and_eq_true] at hq
    have hx := of_decide_eq_true hq.1.1.1.1
    have ho := of_decide_eq_true hq.1.2
    subst ho
    refine ⟨hx, tb_mem hq.1.1.1.2, tb_si hx, hq.1.1.2, ?_⟩
    rcases of_decide_eq_true hq.2 with ⟨rfl, rfl⟩ | ⟨rfl, rfl⟩ | ⟨rfl, rfl⟩ | ⟨rfl, rfl⟩
    · exact tb_ex0
    · exact tb_ex1
    · exact tb_ex2
    · exact tb_ex3
