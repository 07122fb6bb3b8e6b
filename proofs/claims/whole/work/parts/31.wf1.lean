/-! Part 31: the tables of part 30 are what the Statement's words say: checks -/
def tb_seg (k : Nat) : List Cond := match k with
  | 0 => k2_sels lw_privs
  | 1 => tables_1_1
  | 2 => tables_1_2
  | 3 => tables_1_3
  | 4 => tables_1_4
  | 5 => tables_1_5
  | 6 => tables_1_6
  | _ => []
/-- words that stay true while the tables get warmer -/
def tb_gb (w : Cond) : Bool := match w with
  | .methodLinkNest _ _ _ _ => true
  | .arrayOver (.object _) => true
  | w => goodWord w || (w.onTables && w.keepsFace)
def tb_ws : List Cond := lw_tbl.filter tb_gb
def tb_at (p : Nat) (w : Cond) : Bool := decide ((tb_seg (p / 1000))[p % 1000]? = some w) && tb_gb w
theorem tb_seg_in {k : Nat} {w : Cond} (h : w ∈ tb_seg k) : w ∈ lw_tbl := by
  unfold lw_tbl tables_1
  match k, h with
  | 0, h => exact List.mem_append.mpr (Or.inl h)
  | 1, h => exact List.mem_append.mpr (Or.inr (List.mem_append.mpr (Or.inl h)))
  | 2, h => exact List.mem_append.mpr (Or.inr (List.mem_append.mpr (Or.inr (List.mem_append.mpr (Or.inl h)))))
  | 3, h => exact List.mem_append.mpr (Or.inr (List.mem_append.mpr (Or.inr (List.mem_append.mpr (Or.inr (List.mem_append.mpr (Or.inl h)))))))
  | 4, h => exact List.mem_append.mpr (Or.inr (List.mem_append.mpr (Or.inr (List.mem_append.mpr (Or.inr (List.mem_append.mpr (Or.inr (List.mem_append.mpr (Or.inl h)))))))))
  | 5, h => exact List.mem_append.mpr (Or.inr (List.mem_append.mpr (Or.inr (List.mem_append.mpr (Or.inr (List.mem_append.mpr (Or.inr (List.mem_append.mpr (Or.inr (List.mem_append.mpr (Or.inl h)))))))))))
  | 6, h => exact List.mem_append.mpr (Or.inr (List.mem_append.mpr (Or.inr (List.mem_append.mpr (Or.inr (List.mem_append.mpr (Or.inr (List.mem_append.mpr (Or.inr (List.mem_append.mpr (Or.inr h)))))))))))
  | _ + 7, h => cases h
theorem tb_mem {p : Nat} {w : Cond} (h : tb_at p w = true) : w ∈ tb_ws := by
  unfold tb_at at h
  rw [Bool.and_eq_true] at h
  exact List.mem_filter.mpr ⟨tb_seg_in (List.mem_of_getElem? (of_decide_eq_true h.1)), h.2⟩
theorem tb_gw {w : Cond} (h : w ∈ tb_ws) : am_gw w := by
  obtain ⟨-, h⟩ := List.mem_filter.mp h
  intro s U args a' hW hb
  unfold tb_gb at h
  split at h
  · exact (va_Nw.warmM hW (va_Nw.of rfl hb)).use rfl
  · exact va_AO.use (va_AO.moved hW.alike (va_AO.of hb))
  · rw [Bool.or_eq_true] at h
    rcases h with h | h
    · exact word_at hW (good_of_word h) hb
    · rw [Bool.and_eq_true] at h
      exact va_tabs h.1 (rfl : (s.setVm U.vm).vm = U.vm) (Cond.before_shiftedFace (State.Shifted.of_warmed hW) _ h.2 hb)
def tb_sp (k : Nat) : Nat := tb_SP.getD k 0
def tb_mp (j : Nat) : Nat × Nat × Nat × Nat := tb_MP.getD j (0, 0, 0, 0)
def tb_cp (ci : Nat) : Nat × Nat × List Nat := tb_CP.getD ci (0, 0, [])
def tb_up : List String := ["java/lang/RuntimeException", "java/lang/Exception"]
def tb_chk (o : Nat) (q : Nat × (Nat × Nat × Nat × Nat) × Nat) : Bool := match q.2.1 with
  | (1, ci, fi, 0) => decide (ci < 12) && tb_at q.2.2 (.fieldLink (tb_own o) q.1 (tb_own ci) (tb_T ci fi).2.1 (tb_T ci fi).2.2.1)
  | (2, j, 0, _) => decide (j < 180) && decide (am_hs (tb_mt j) = []) && decide (am_o (tb_mt j) < 12) && tb_at q.2.2 (.methodLink (tb_own o) q.1 (am_y (tb_mt j))) && tb_at (tb_mp j).2.2.1 (.instanceMethod (am_y (tb_mt j))) && tb_at (tb_mp j).2.2.2 (.selects (am_y (tb_mt j)).cls (am_y (tb_mt j)) (am_y (tb_mt j)))
  | (2, j, 1, _) => decide (j < 180) && tb_at q.2.2 (.methodLink (tb_own o) q.1 (am_y (tb_mt j))) && tb_at (tb_mp j).2.2.1 (.static (am_y (tb_mt j)))
  | (2, j, 4, _) => decide (j < 180) && tb_at q.2.2 (.methodLinkNest (tb_own o) q.1 (am_y (tb_mt j)) "AttributeLink") && tb_at (tb_mp j).2.2.1 (.static (am_y (tb_mt j)))
  | (2, j, 2, _) => decide (j < 180) && decide (am_hs (tb_mt j) = []) && decide (am_rt (tb_mt j) = none) && decide ((am_y (tb_mt j)).name = "<init>") && tb_at q.2.2 (.methodLink (tb_own o) q.1 (am_y (tb_mt j))) && tb_at (tb_mp j).2.2.1 (.instanceMethod (am_y (tb_mt j)))
  | (3, ci, t, _) => decide (ci < 12) && tb_at q.2.2 (.classLink (tb_own o) q.1 (tb_own ci)) && tb_at (tb_cp ci).1 (.instantiable (tb_own ci) (tb_nf ci)) && tb_at (tb_cp ci).2.1 (.initialized (tb_own ci)) && decide (t = 0 ∨ (t = 103 ∧ ci = 7) ∨ (t = 104 ∧ ci = 0))
  | (5, x, ic, _) => decide (x < 4) && tb_at q.2.2 (.classLink (tb_own o) q.1 (tb_xn x)) && Bundle.fit (tb_xn x) && decide (o = 10) && decide ((x = 0 ∧ ic = 69) ∨ (x = 1 ∧ ic = 76) ∨ (x = 2 ∧ ic = 136) ∨ (x = 3 ∧ ic = 182))
  | (7, _, _, _) => tb_at q.2.2 (.methodLink (tb_own o) q.1 Lib.objectInit)
  | (8, _, _, _) => tb_at q.2.2 (.methodLink (tb_own o) q.1 arraycopyName)
  | (9, x, _, _) => decide (x < 4) && decide (q.1 ≠ 0) && tb_at q.2.2 (.classLink (tb_own o) q.1 (tb_xn x))
  | (10, _, _, _) => tb_at q.2.2 (.methodLink (tb_own o) q.1 Lib.Math.min.name)
  | (11, _, _, _) => tb_at q.2.2 (.methodLink (tb_own o) q.1 Lib.Math.max.name)
  | _ => false
set_option maxRecDepth 100000 in
theorem tb_c0_0 : ((tb_PL0.drop 0).take 25).all (tb_chk 0) = true := by decide +kernel
set_option maxRecDepth 100000 in
theorem tb_c1_0 : ((tb_PL1.drop 0).take 25).all (tb_chk 1) = true := by decide +kernel
set_option maxRecDepth 100000 in
theorem tb_c2_0 : ((tb_PL2.drop 0).take 25).all (tb_chk 2) = true := by decide +kernel
set_option maxRecDepth 100000 in
theorem tb_c2_25 : ((tb_PL2.drop 25).take 25).all (tb_chk 2) = true := by decide +kernel
set_option maxRecDepth 100000 in
theorem tb_c3_0 : ((tb_PL3.drop 0).take 25).all (tb_chk 3) = true := by decide +kernel
set_option maxRecDepth 100000 in
theorem tb_c3_25 : ((tb_PL3.drop 25).take 25).all (tb_chk 3) = true := by decide +kernel
set_option maxRecDepth 100000 in
theorem tb_c4_0 : ((tb_PL4.drop 0).take 25).all (tb_chk 4) = true := by decide +kernel
set_option maxRecDepth 100000 in
theorem tb_c5_0 : ((tb_PL5.drop 0).take 25).all (tb_chk 5) = true := by decide +kernel
set_option maxRecDepth 100000 in
theorem tb_c6_0 : ((tb_PL6.drop 0).take 25).all (tb_chk 6) = true := by decide +kernel
set_option maxRecDepth 100000 in
theorem tb_c7_0 : ((tb_PL7.drop 0).take 25).all (tb_chk 7) = true := by decide +kernel
set_option maxRecDepth 100000 in
theorem tb_c8_0 : ((tb_PL8.drop 0).take 25).all (tb_chk 8) = true := by decide +kernel
set_option maxRecDepth 100000 in
theorem tb_c8_25 : ((tb_PL8.drop 25).take 25).all (tb_chk 8) = true := by decide +kernel
set_option maxRecDepth 100000 in
theorem tb_c9_0 : ((tb_PL9.drop 0).take 25).all (tb_chk 9) = true := by decide +kernel
set_option maxRecDepth 100000 in
theorem tb_c10_0 : ((tb_PL10.drop 0).take 25).all (tb_chk 10) = true := by decide +kernel
set_option maxRecDepth 100000 in
theorem tb_c10_25 : ((tb_PL10.drop 25).take 25).all (tb_chk 10) = true := by decide +kernel
set_option maxRecDepth 100000 in
theorem tb_c10_50 : ((tb_PL10.drop 50).take 25).all (tb_chk 10) = true := by decide +kernel
set_option maxRecDepth 100000 in
theorem tb_c11_0 : ((tb_PL11.drop 0).take 25).all (tb_chk 11) = true := by decide +kernel
set_option maxRecDepth 100000 in
theorem tb_c11_25 : ((tb_PL11.drop 25).take 25).all (tb_chk 11) = true := by decide +kernel
set_option maxRecDepth 100000 in
theorem tb_c11_50 : ((tb_PL11.drop 50).take 25).all (tb_chk 11) = true := by decide +kernel
set_option maxRecDepth 100000 in
theorem tb_c11_75 : ((tb_PL11.drop 75).take 25).all (tb_chk 11) = true := by decide +kernel
set_option maxRecDepth 100000 in
theorem tb_c12_0 : ((tb_PL12.drop 0).take 25).all (tb_chk 12) = true := by decide +kernel
set_option maxRecDepth 100000 in
theorem tb_c12_25 : ((tb_PL12.drop 25).take 25).all (tb_chk 12) = true := by decide +kernel
set_option maxRecDepth 100000 in
theorem tb_c12_50 : ((tb_PL12.drop 50).take 25).all (tb_chk 12) = true := by decide +kernel
