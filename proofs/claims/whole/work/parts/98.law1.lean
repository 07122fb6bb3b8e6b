/-! Part 98 (written by gen70.py): the law, a call at a time -/
theorem rc0 : bw_rc R0 0 = false := by decide +kernel
theorem lg_self (x : Int64) : lg_cmp x x = 0 := by
  unfold lg_cmp
  simp
/-- two ints as a long -/
def lv (a b : Int32) : Int64 := (a.toInt64 <<< ((Int32.ofNat 32).toInt64 &&& 63)) ||| (b.toInt64 &&& 4294967295)
section LW
variable {n0 : Nat} {T i c u g : Nat} {W : bw_W} {J : bw_J} {L : bw_L} {Qh : am_O → am_H → Prop}
def lwK (n0 T i c u : Nat) (J : bw_J) (Qh : am_O → am_H → Prop) : Prop := ∀ (T' g' c' u' : Nat) (W' : bw_W) (J' : bw_J) (L' : bw_L), rel T' W' J' J' → T' ≤ T + 40 → J' 0 = J 0 → c' ≤ c + 1 → u' ≤ u + 6 → bH 12 (S0 n0) R0 mt_La_law Qh 1278 [(4, .int (Int32.ofNat i)), (0, .ref 0), (1, .ref 1), (2, .ref 130), (3, .ref 166)] [] W' J' g' L' c' u'
theorem lw_0 (hi : i + 6 ≤ n0) (hn : n0 ≤ 3075) (hc : c + 1 ≤ 601024) (hu : u + 6 ≤ 7293000) (h : rel T W J J) (hT : T < 70000000) (hK : lwK n0 T i c u J Qh) : bH 12 (S0 n0) R0 mt_La_law Qh 144 [(4, .int (Int32.ofNat i)), (0, .ref 0), (1, .ref 1), (2, .ref 130), (3, .ref 166)] [] W J g L c u := by
  have hSR := SR0 n0
  refine b_aln (pc2 := 145) d_La_law_144 rfl rfl ?_
  refine b_aln (pc2 := 146) d_La_law_145 rfl rfl ?_
  refine b_il (pc2 := 148) d_La_law_146 rfl rfl ?_
  refine b_ic (pc2 := 149) (x := Int32.ofNat 1) d_La_law_148 rfl rfl ?_
  refine b_pure (pc2 := 150) d_La_law_149 rfl rfl rfl ?_
  rw [i_add]
  refine b_ia0 (pc2 := 151) (q := (i + 1)) d_La_law_150 rfl (i_in (show i + 1 < n0 by omega) (by omega)) (i_tn (by omega)) rc0 rfl ?_
  refine b_aln (pc2 := 152) d_La_law_151 rfl rfl ?_
  refine b_il (pc2 := 154) d_La_law_152 rfl rfl ?_
  refine b_ic (pc2 := 155) (x := Int32.ofNat 2) d_La_law_154 rfl rfl ?_
  refine b_pure (pc2 := 156) d_La_law_155 rfl rfl rfl ?_
  rw [i_add]
  refine b_ia0 (pc2 := 157) (q := (i + 2)) d_La_law_156 rfl (i_in (show i + 2 < n0 by omega) (by omega)) (i_tn (by omega)) rc0 rfl ?_
  refine b_aln (pc2 := 158) d_La_law_157 rfl rfl ?_
  refine b_il (pc2 := 160) d_La_law_158 rfl rfl ?_
  refine b_ic (pc2 := 161) (x := Int32.ofNat 3) d_La_law_160 rfl rfl ?_
  refine b_pure (pc2 := 162) d_La_law_161 rfl rfl rfl ?_
  rw [i_add]
  refine b_ia0 (pc2 := 163) (q := (i + 3)) d_La_law_162 rfl (i_in (show i + 3 < n0 by omega) (by omega)) (i_tn (by omega)) rc0 rfl ?_
  refine b_pure (pc2 := 164) d_La_law_163 rfl rfl rfl ?_
  refine b_bp (pc2 := 166) (x := Int32.ofNat 32) d_La_law_164 rfl rfl ?_
  refine b_pure (pc2 := 167) d_La_law_166 rfl rfl rfl ?_
  refine b_aln (pc2 := 168) d_La_law_167 rfl rfl ?_
  refine b_il (pc2 := 170) d_La_law_168 rfl rfl ?_
  refine b_ic (pc2 := 171) (x := Int32.ofNat 4) d_La_law_170 rfl rfl ?_
  refine b_pure (pc2 := 172) d_La_law_171 rfl rfl rfl ?_
  rw [i_add]
  refine b_ia0 (pc2 := 173) (q := (i + 4)) d_La_law_172 rfl (i_in (show i + 4 < n0 by omega) (by omega)) (i_tn (by omega)) rc0 rfl ?_
  refine b_pure (pc2 := 174) d_La_law_173 rfl rfl rfl ?_
  refine b_ldc2 (pc2 := 177) d_La_law_174 rfl rfl ?_
  refine b_pure (pc2 := 178) d_La_law_177 rfl rfl rfl ?_
  refine b_pure (pc2 := 179) d_La_law_178 rfl rfl rfl ?_
  refine b_aln (pc2 := 180) d_La_law_179 rfl rfl ?_
  refine b_il (pc2 := 182) d_La_law_180 rfl rfl ?_
  refine b_ic (pc2 := 183) (x := Int32.ofNat 5) d_La_law_182 rfl rfl ?_
  refine b_pure (pc2 := 184) d_La_law_183 rfl rfl rfl ?_
  rw [i_add]
  refine b_ia0 (pc2 := 185) (q := (i + 5)) d_La_law_184 rfl (i_in (show i + 5 < n0 by omega) (by omega)) (i_tn (by omega)) rc0 rfl ?_
  refine b_aln (pc2 := 186) d_La_law_185 rfl rfl ?_
  obtain ⟨k, kg, v, b, W1, J1, K1, hk2, hkb, hcc, hmm2, hth, hrel, h0⟩ := sim_attribute (n0 := n0) (ty := J 0 (i + 1)) (pm := J 0 (i + 2)) (v := lv (J 0 (i + 3)) (J 0 (i + 4))) (n := J 0 (i + 5)) h
  have hcls := hcc 12 J g L (by decide)
  rw [jn_same] at hcls
  have hj0 : (jn J1 J) 0 = J 0 := h0
  refine b_cs1 (pc2 := 189) (c2 := c + 1) (u2 := u + 6) (hcls) d_La_law_186 q_12_81 (Or.inl rfl) (Nat.le_of_ble_eq_true rfl) rfl rfl (Nat.le_of_ble_eq_true rfl) rfl rfl (by show c + 1 ≤ 601024; omega) (by show u + 6 ≤ 7293000; omega) rfl ?_
  refine b_is (pc2 := 191) (al2 := [(5, _), (4, _), (0, _), (1, _), (2, _), (3, _)]) d_La_law_189 (by decide) rfl rfl ?_
  refine b_aln (pc2 := 192) d_La_law_191 rfl rfl ?_
  refine b_aln (pc2 := 193) d_La_law_192 rfl rfl ?_
  refine b_il (pc2 := 195) d_La_law_193 rfl rfl ?_
  refine b_ic (pc2 := 196) (x := Int32.ofNat 1) d_La_law_195 rfl rfl ?_
  refine b_pure (pc2 := 197) d_La_law_196 rfl rfl rfl ?_
  rw [i_add]
  refine b_ia0 (pc2 := 198) (q := (i + 1)) d_La_law_197 rfl (i_in (show i + 1 < n0 by omega) (by omega)) (i_tn (by omega)) rc0 rfl ?_
  rw [hj0]
  refine b_aln (pc2 := 199) d_La_law_198 rfl rfl ?_
  refine b_il (pc2 := 201) d_La_law_199 rfl rfl ?_
  refine b_ic (pc2 := 202) (x := Int32.ofNat 2) d_La_law_201 rfl rfl ?_
  refine b_pure (pc2 := 203) d_La_law_202 rfl rfl rfl ?_
  rw [i_add]
  refine b_ia0 (pc2 := 204) (q := (i + 2)) d_La_law_203 rfl (i_in (show i + 2 < n0 by omega) (by omega)) (i_tn (by omega)) rc0 rfl ?_
  rw [hj0]
  refine b_aln (pc2 := 205) d_La_law_204 rfl rfl ?_
  refine b_il (pc2 := 207) d_La_law_205 rfl rfl ?_
  refine b_ic (pc2 := 208) (x := Int32.ofNat 3) d_La_law_207 rfl rfl ?_
  refine b_pure (pc2 := 209) d_La_law_208 rfl rfl rfl ?_
  rw [i_add]
  refine b_ia0 (pc2 := 210) (q := (i + 3)) d_La_law_209 rfl (i_in (show i + 3 < n0 by omega) (by omega)) (i_tn (by omega)) rc0 rfl ?_
  rw [hj0]
  refine b_pure (pc2 := 211) d_La_law_210 rfl rfl rfl ?_
  refine b_bp (pc2 := 213) (x := Int32.ofNat 32) d_La_law_211 rfl rfl ?_
  refine b_pure (pc2 := 214) d_La_law_213 rfl rfl rfl ?_
  refine b_aln (pc2 := 215) d_La_law_214 rfl rfl ?_
  refine b_il (pc2 := 217) d_La_law_215 rfl rfl ?_
  refine b_ic (pc2 := 218) (x := Int32.ofNat 4) d_La_law_217 rfl rfl ?_
  refine b_pure (pc2 := 219) d_La_law_218 rfl rfl rfl ?_
  rw [i_add]
  refine b_ia0 (pc2 := 220) (q := (i + 4)) d_La_law_219 rfl (i_in (show i + 4 < n0 by omega) (by omega)) (i_tn (by omega)) rc0 rfl ?_
  rw [hj0]
  refine b_pure (pc2 := 221) d_La_law_220 rfl rfl rfl ?_
  refine b_ldc2 (pc2 := 224) d_La_law_221 rfl rfl ?_
  refine b_pure (pc2 := 225) d_La_law_224 rfl rfl rfl ?_
  refine b_pure (pc2 := 226) d_La_law_225 rfl rfl rfl ?_
  refine b_aln (pc2 := 227) d_La_law_226 rfl rfl ?_
  refine b_il (pc2 := 229) d_La_law_227 rfl rfl ?_
  refine b_ic (pc2 := 230) (x := Int32.ofNat 5) d_La_law_229 rfl rfl ?_
  refine b_pure (pc2 := 231) d_La_law_230 rfl rfl rfl ?_
  rw [i_add]
  refine b_ia0 (pc2 := 232) (q := (i + 5)) d_La_law_231 rfl (i_in (show i + 5 < n0 by omega) (by omega)) (i_tn (by omega)) rc0 rfl ?_
  rw [hj0]
  refine b_cv1 (pc2 := 235) (c2 := c + 1) (u2 := u + 6) (hmm2 12 W1 J1 _ _ (by decide)) d_La_law_232 q_12_84 (Nat.le_of_ble_eq_true rfl) rfl rfl (sh_130 n0) (Nat.le_of_ble_eq_true rfl) rfl rfl (by show c + 1 ≤ 601024; omega) (by show u + 6 ≤ 7293000; omega) rfl ?_
  refine b_is (pc2 := 237) (al2 := [(6, _), (5, _), (4, _), (0, _), (1, _), (2, _), (3, _)]) d_La_law_235 (by decide) rfl rfl ?_
  refine b_aln (pc2 := 238) d_La_law_237 rfl rfl ?_
  refine b_cv1 (pc2 := 241) (c2 := c + 1) (u2 := u + 6) (mo_thrown (by decide)) d_La_law_238 q_12_85 (Nat.le_of_ble_eq_true rfl) rfl rfl (sh_130 n0) (Nat.le_of_ble_eq_true rfl) rfl rfl (by show c + 1 ≤ 601024; omega) (by show u + 6 ≤ 7293000; omega) rfl ?_
  rw [show (jn J1 K1) 130 0 = Int32.ofNat k from hth]
  refine b_il (pc2 := 243) d_La_law_241 rfl rfl ?_
  refine b_ifd (pc2 := 248) d_La_law_243 rfl rfl rfl rfl rfl (fun h243 => ?_) (fun h243 => ?_)
  rotate_left
  · exact absurd (rfl) h243
  refine b_il (pc2 := 250) d_La_law_248 rfl rfl ?_
  refine b_ifd (pc2 := 265) d_La_law_250 rfl rfl rfl rfl rfl (fun h250 => ?_) (fun h250 => ?_)
  · rw [z_eq (by omega)] at h250
    refine b_go (pc2 := 1278) d_La_law_265 rfl ?_
    refine b_nf (al := [(4, _), (0, _), (1, _), (2, _), (3, _)]) (ks := [4, 0, 1, 2, 3]) (sub_c rfl (sub_c rfl (sub_c rfl (sub_c rfl (sub_c rfl (sub_n)))))) rfl (by decide) ?_
    dsimp only
    exact hK T _ _ _ W1 (jn J1 K1) _ (rel_jn hrel) (by omega) h0 (by omega) (by omega)
  · rw [z_eq (by omega)] at h250
    have hk0 : k = 0 := by omega
    subst hk0
    have hbv := hkb rfl
    subst hbv
    rw [if_pos rfl]
    refine b_aln (pc2 := 254) d_La_law_253 rfl rfl ?_
    refine b_ic (pc2 := 255) (x := Int32.ofNat 0) d_La_law_254 rfl rfl ?_
    refine b_la (pc2 := 256) (q := 0) d_La_law_255 (sh_166 n0) (i_in (i := 0) (by decide) (by decide)) rfl rfl ?_
    rw [u2_at]
    refine b_il (pc2 := 258) d_La_law_256 rfl rfl ?_
    refine b_pure (pc2 := 259) d_La_law_258 rfl rfl rfl ?_
    refine b_pure (pc2 := 260) d_La_law_259 rfl rfl rfl ?_
    refine b_ifd (pc2 := 265) d_La_law_260 rfl rfl rfl rfl rfl (fun h260 => ?_) (fun h260 => ?_)
    rotate_left
    · exact absurd (lg_self _) h260
    refine b_go (pc2 := 1278) d_La_law_265 rfl ?_
    refine b_nf (al := [(4, _), (0, _), (1, _), (2, _), (3, _)]) (ks := [4, 0, 1, 2, 3]) (sub_c rfl (sub_c rfl (sub_c rfl (sub_c rfl (sub_c rfl (sub_n)))))) rfl (by decide) ?_
    dsimp only
    exact hK T _ _ _ W1 (jn J1 K1) _ (rel_jn hrel) (by omega) h0 (by omega) (by omega)
theorem lw_1 (hi : i + 6 ≤ n0) (hn : n0 ≤ 3075) (hc : c + 1 ≤ 601024) (hu : u + 6 ≤ 7293000) (h : rel T W J J) (hT : T < 70000000) (hK : lwK n0 T i c u J Qh) : bH 12 (S0 n0) R0 mt_La_law Qh 268 [(4, .int (Int32.ofNat i)), (0, .ref 0), (1, .ref 1), (2, .ref 130), (3, .ref 166)] [] W J g L c u := by
  have hSR := SR0 n0
  refine b_aln (pc2 := 269) d_La_law_268 rfl rfl ?_
  refine b_aln (pc2 := 270) d_La_law_269 rfl rfl ?_
  refine b_il (pc2 := 272) d_La_law_270 rfl rfl ?_
  refine b_ic (pc2 := 273) (x := Int32.ofNat 1) d_La_law_272 rfl rfl ?_
  refine b_pure (pc2 := 274) d_La_law_273 rfl rfl rfl ?_
  rw [i_add]
  refine b_ia0 (pc2 := 275) (q := (i + 1)) d_La_law_274 rfl (i_in (show i + 1 < n0 by omega) (by omega)) (i_tn (by omega)) rc0 rfl ?_
  refine b_aln (pc2 := 276) d_La_law_275 rfl rfl ?_
  refine b_il (pc2 := 278) d_La_law_276 rfl rfl ?_
  refine b_ic (pc2 := 279) (x := Int32.ofNat 2) d_La_law_278 rfl rfl ?_
  refine b_pure (pc2 := 280) d_La_law_279 rfl rfl rfl ?_
  rw [i_add]
  refine b_ia0 (pc2 := 281) (q := (i + 2)) d_La_law_280 rfl (i_in (show i + 2 < n0 by omega) (by omega)) (i_tn (by omega)) rc0 rfl ?_
  refine b_ifd (pc2 := 288) d_La_law_281 rfl rfl rfl rfl rfl (fun h281 => ?_) (fun h281 => ?_)
  · refine b_ic (pc2 := 289) (x := Int32.ofNat 0) d_La_law_288 rfl rfl ?_
    refine b_aln (pc2 := 290) d_La_law_289 rfl rfl ?_
    refine b_il (pc2 := 292) d_La_law_290 rfl rfl ?_
    refine b_ic (pc2 := 293) (x := Int32.ofNat 3) d_La_law_292 rfl rfl ?_
    refine b_pure (pc2 := 294) d_La_law_293 rfl rfl rfl ?_
    rw [i_add]
    refine b_ia0 (pc2 := 295) (q := (i + 3)) d_La_law_294 rfl (i_in (show i + 3 < n0 by omega) (by omega)) (i_tn (by omega)) rc0 rfl ?_
    refine b_pure (pc2 := 296) d_La_law_295 rfl rfl rfl ?_
    refine b_bp (pc2 := 298) (x := Int32.ofNat 32) d_La_law_296 rfl rfl ?_
    refine b_pure (pc2 := 299) d_La_law_298 rfl rfl rfl ?_
    refine b_aln (pc2 := 300) d_La_law_299 rfl rfl ?_
    refine b_il (pc2 := 302) d_La_law_300 rfl rfl ?_
    refine b_ic (pc2 := 303) (x := Int32.ofNat 4) d_La_law_302 rfl rfl ?_
    refine b_pure (pc2 := 304) d_La_law_303 rfl rfl rfl ?_
    rw [i_add]
    refine b_ia0 (pc2 := 305) (q := (i + 4)) d_La_law_304 rfl (i_in (show i + 4 < n0 by omega) (by omega)) (i_tn (by omega)) rc0 rfl ?_
    refine b_pure (pc2 := 306) d_La_law_305 rfl rfl rfl ?_
    refine b_ldc2 (pc2 := 309) d_La_law_306 rfl rfl ?_
    refine b_pure (pc2 := 310) d_La_law_309 rfl rfl rfl ?_
    refine b_pure (pc2 := 311) d_La_law_310 rfl rfl rfl ?_
    refine b_aln (pc2 := 312) d_La_law_311 rfl rfl ?_
    refine b_il (pc2 := 314) d_La_law_312 rfl rfl ?_
    refine b_ic (pc2 := 315) (x := Int32.ofNat 5) d_La_law_314 rfl rfl ?_
    refine b_pure (pc2 := 316) d_La_law_315 rfl rfl rfl ?_
    rw [i_add]
    refine b_ia0 (pc2 := 317) (q := (i + 5)) d_La_law_316 rfl (i_in (show i + 5 < n0 by omega) (by omega)) (i_tn (by omega)) rc0 rfl ?_
    refine b_aln (pc2 := 318) d_La_law_317 rfl rfl ?_
    obtain ⟨k, kg, v, b, W1, J1, K1, hk2, hkb, hcc, hmm2, hth, hrel, h0⟩ := sim_put (n0 := n0) (hh := J 0 (i + 1)) (b := Int32.ofNat 0) (v := lv (J 0 (i + 3)) (J 0 (i + 4))) (n := J 0 (i + 5)) h
    have hcls := hcc 12 J g L (by decide)
    rw [jn_same] at hcls
    have hj0 : (jn J1 J) 0 = J 0 := h0
    refine b_cs1 (pc2 := 321) (c2 := c + 1) (u2 := u + 6) (hcls) d_La_law_318 q_12_88 (Or.inl rfl) (Nat.le_of_ble_eq_true rfl) rfl rfl (Nat.le_of_ble_eq_true rfl) rfl rfl (by show c + 1 ≤ 601024; omega) (by show u + 6 ≤ 7293000; omega) rfl ?_
    refine b_is (pc2 := 323) (al2 := [(5, _), (4, _), (0, _), (1, _), (2, _), (3, _)]) d_La_law_321 (by decide) rfl rfl ?_
    refine b_aln (pc2 := 324) d_La_law_323 rfl rfl ?_
    refine b_aln (pc2 := 325) d_La_law_324 rfl rfl ?_
    refine b_il (pc2 := 327) d_La_law_325 rfl rfl ?_
    refine b_ic (pc2 := 328) (x := Int32.ofNat 1) d_La_law_327 rfl rfl ?_
    refine b_pure (pc2 := 329) d_La_law_328 rfl rfl rfl ?_
    rw [i_add]
    refine b_ia0 (pc2 := 330) (q := (i + 1)) d_La_law_329 rfl (i_in (show i + 1 < n0 by omega) (by omega)) (i_tn (by omega)) rc0 rfl ?_
    rw [hj0]
    refine b_aln (pc2 := 331) d_La_law_330 rfl rfl ?_
    refine b_il (pc2 := 333) d_La_law_331 rfl rfl ?_
    refine b_ic (pc2 := 334) (x := Int32.ofNat 2) d_La_law_333 rfl rfl ?_
    refine b_pure (pc2 := 335) d_La_law_334 rfl rfl rfl ?_
    rw [i_add]
    refine b_ia0 (pc2 := 336) (q := (i + 2)) d_La_law_335 rfl (i_in (show i + 2 < n0 by omega) (by omega)) (i_tn (by omega)) rc0 rfl ?_
    rw [hj0]
    refine b_ifd (pc2 := 343) d_La_law_336 rfl rfl rfl rfl rfl (fun h336 => ?_) (fun h336 => ?_)
    rotate_left
    · exact absurd (h281) h336
    refine b_ic (pc2 := 344) (x := Int32.ofNat 0) d_La_law_343 rfl rfl ?_
    refine b_aln (pc2 := 345) d_La_law_344 rfl rfl ?_
    refine b_il (pc2 := 347) d_La_law_345 rfl rfl ?_
    refine b_ic (pc2 := 348) (x := Int32.ofNat 3) d_La_law_347 rfl rfl ?_
    refine b_pure (pc2 := 349) d_La_law_348 rfl rfl rfl ?_
    rw [i_add]
    refine b_ia0 (pc2 := 350) (q := (i + 3)) d_La_law_349 rfl (i_in (show i + 3 < n0 by omega) (by omega)) (i_tn (by omega)) rc0 rfl ?_
    rw [hj0]
    refine b_pure (pc2 := 351) d_La_law_350 rfl rfl rfl ?_
    refine b_bp (pc2 := 353) (x := Int32.ofNat 32) d_La_law_351 rfl rfl ?_
    refine b_pure (pc2 := 354) d_La_law_353 rfl rfl rfl ?_
    refine b_aln (pc2 := 355) d_La_law_354 rfl rfl ?_
    refine b_il (pc2 := 357) d_La_law_355 rfl rfl ?_
    refine b_ic (pc2 := 358) (x := Int32.ofNat 4) d_La_law_357 rfl rfl ?_
    refine b_pure (pc2 := 359) d_La_law_358 rfl rfl rfl ?_
    rw [i_add]
    refine b_ia0 (pc2 := 360) (q := (i + 4)) d_La_law_359 rfl (i_in (show i + 4 < n0 by omega) (by omega)) (i_tn (by omega)) rc0 rfl ?_
    rw [hj0]
    refine b_pure (pc2 := 361) d_La_law_360 rfl rfl rfl ?_
    refine b_ldc2 (pc2 := 364) d_La_law_361 rfl rfl ?_
    refine b_pure (pc2 := 365) d_La_law_364 rfl rfl rfl ?_
    refine b_pure (pc2 := 366) d_La_law_365 rfl rfl rfl ?_
    refine b_aln (pc2 := 367) d_La_law_366 rfl rfl ?_
    refine b_il (pc2 := 369) d_La_law_367 rfl rfl ?_
    refine b_ic (pc2 := 370) (x := Int32.ofNat 5) d_La_law_369 rfl rfl ?_
    refine b_pure (pc2 := 371) d_La_law_370 rfl rfl rfl ?_
    rw [i_add]
    refine b_ia0 (pc2 := 372) (q := (i + 5)) d_La_law_371 rfl (i_in (show i + 5 < n0 by omega) (by omega)) (i_tn (by omega)) rc0 rfl ?_
    rw [hj0]
    refine b_cv1 (pc2 := 375) (c2 := c + 1) (u2 := u + 6) (hmm2 12 W1 J1 _ _ (by decide)) d_La_law_372 q_12_91 (Nat.le_of_ble_eq_true rfl) rfl rfl (sh_130 n0) (Nat.le_of_ble_eq_true rfl) rfl rfl (by show c + 1 ≤ 601024; omega) (by show u + 6 ≤ 7293000; omega) rfl ?_
    refine b_is (pc2 := 377) (al2 := [(6, _), (5, _), (4, _), (0, _), (1, _), (2, _), (3, _)]) d_La_law_375 (by decide) rfl rfl ?_
    refine b_aln (pc2 := 378) d_La_law_377 rfl rfl ?_
    refine b_cv1 (pc2 := 381) (c2 := c + 1) (u2 := u + 6) (mo_thrown (by decide)) d_La_law_378 q_12_85 (Nat.le_of_ble_eq_true rfl) rfl rfl (sh_130 n0) (Nat.le_of_ble_eq_true rfl) rfl rfl (by show c + 1 ≤ 601024; omega) (by show u + 6 ≤ 7293000; omega) rfl ?_
    rw [show (jn J1 K1) 130 0 = Int32.ofNat k from hth]
    refine b_il (pc2 := 383) d_La_law_381 rfl rfl ?_
    refine b_ifd (pc2 := 388) d_La_law_383 rfl rfl rfl rfl rfl (fun h383 => ?_) (fun h383 => ?_)
    rotate_left
    · exact absurd (rfl) h383
    refine b_il (pc2 := 390) d_La_law_388 rfl rfl ?_
    refine b_ifd (pc2 := 405) d_La_law_390 rfl rfl rfl rfl rfl (fun h390 => ?_) (fun h390 => ?_)
    · rw [z_eq (by omega)] at h390
      refine b_go (pc2 := 1278) d_La_law_405 rfl ?_
      refine b_nf (al := [(4, _), (0, _), (1, _), (2, _), (3, _)]) (ks := [4, 0, 1, 2, 3]) (sub_c rfl (sub_c rfl (sub_c rfl (sub_c rfl (sub_c rfl (sub_n)))))) rfl (by decide) ?_
      dsimp only
      exact hK T _ _ _ W1 (jn J1 K1) _ (rel_jn hrel) (by omega) h0 (by omega) (by omega)
    · rw [z_eq (by omega)] at h390
      have hk0 : k = 0 := by omega
      subst hk0
      have hbv := hkb rfl
      subst hbv
      rw [if_pos rfl]
      refine b_aln (pc2 := 394) d_La_law_393 rfl rfl ?_
      refine b_ic (pc2 := 395) (x := Int32.ofNat 0) d_La_law_394 rfl rfl ?_
      refine b_la (pc2 := 396) (q := 0) d_La_law_395 (sh_166 n0) (i_in (i := 0) (by decide) (by decide)) rfl rfl ?_
      rw [u2_at]
      refine b_il (pc2 := 398) d_La_law_396 rfl rfl ?_
      refine b_pure (pc2 := 399) d_La_law_398 rfl rfl rfl ?_
      refine b_pure (pc2 := 400) d_La_law_399 rfl rfl rfl ?_
      refine b_ifd (pc2 := 405) d_La_law_400 rfl rfl rfl rfl rfl (fun h400 => ?_) (fun h400 => ?_)
      rotate_left
      · exact absurd (lg_self _) h400
      refine b_go (pc2 := 1278) d_La_law_405 rfl ?_
      refine b_nf (al := [(4, _), (0, _), (1, _), (2, _), (3, _)]) (ks := [4, 0, 1, 2, 3]) (sub_c rfl (sub_c rfl (sub_c rfl (sub_c rfl (sub_c rfl (sub_n)))))) rfl (by decide) ?_
      dsimp only
      exact hK T _ _ _ W1 (jn J1 K1) _ (rel_jn hrel) (by omega) h0 (by omega) (by omega)
  · refine b_ic (pc2 := 285) (x := Int32.ofNat 1) d_La_law_284 rfl rfl ?_
    refine b_go (pc2 := 289) d_La_law_285 rfl ?_
    refine b_aln (pc2 := 290) d_La_law_289 rfl rfl ?_
    refine b_il (pc2 := 292) d_La_law_290 rfl rfl ?_
    refine b_ic (pc2 := 293) (x := Int32.ofNat 3) d_La_law_292 rfl rfl ?_
    refine b_pure (pc2 := 294) d_La_law_293 rfl rfl rfl ?_
    rw [i_add]
    refine b_ia0 (pc2 := 295) (q := (i + 3)) d_La_law_294 rfl (i_in (show i + 3 < n0 by omega) (by omega)) (i_tn (by omega)) rc0 rfl ?_
    refine b_pure (pc2 := 296) d_La_law_295 rfl rfl rfl ?_
    refine b_bp (pc2 := 298) (x := Int32.ofNat 32) d_La_law_296 rfl rfl ?_
    refine b_pure (pc2 := 299) d_La_law_298 rfl rfl rfl ?_
    refine b_aln (pc2 := 300) d_La_law_299 rfl rfl ?_
    refine b_il (pc2 := 302) d_La_law_300 rfl rfl ?_
    refine b_ic (pc2 := 303) (x := Int32.ofNat 4) d_La_law_302 rfl rfl ?_
    refine b_pure (pc2 := 304) d_La_law_303 rfl rfl rfl ?_
    rw [i_add]
    refine b_ia0 (pc2 := 305) (q := (i + 4)) d_La_law_304 rfl (i_in (show i + 4 < n0 by omega) (by omega)) (i_tn (by omega)) rc0 rfl ?_
    refine b_pure (pc2 := 306) d_La_law_305 rfl rfl rfl ?_
    refine b_ldc2 (pc2 := 309) d_La_law_306 rfl rfl ?_
    refine b_pure (pc2 := 310) d_La_law_309 rfl rfl rfl ?_
    refine b_pure (pc2 := 311) d_La_law_310 rfl rfl rfl ?_
    refine b_aln (pc2 := 312) d_La_law_311 rfl rfl ?_
    refine b_il (pc2 := 314) d_La_law_312 rfl rfl ?_
    refine b_ic (pc2 := 315) (x := Int32.ofNat 5) d_La_law_314 rfl rfl ?_
    refine b_pure (pc2 := 316) d_La_law_315 rfl rfl rfl ?_
    rw [i_add]
    refine b_ia0 (pc2 := 317) (q := (i + 5)) d_La_law_316 rfl (i_in (show i + 5 < n0 by omega) (by omega)) (i_tn (by omega)) rc0 rfl ?_
    refine b_aln (pc2 := 318) d_La_law_317 rfl rfl ?_
    obtain ⟨k, kg, v, b, W1, J1, K1, hk2, hkb, hcc, hmm2, hth, hrel, h0⟩ := sim_put (n0 := n0) (hh := J 0 (i + 1)) (b := Int32.ofNat 1) (v := lv (J 0 (i + 3)) (J 0 (i + 4))) (n := J 0 (i + 5)) h
    have hcls := hcc 12 J g L (by decide)
    rw [jn_same] at hcls
    have hj0 : (jn J1 J) 0 = J 0 := h0
    refine b_cs1 (pc2 := 321) (c2 := c + 1) (u2 := u + 6) (hcls) d_La_law_318 q_12_88 (Or.inl rfl) (Nat.le_of_ble_eq_true rfl) rfl rfl (Nat.le_of_ble_eq_true rfl) rfl rfl (by show c + 1 ≤ 601024; omega) (by show u + 6 ≤ 7293000; omega) rfl ?_
    refine b_is (pc2 := 323) (al2 := [(5, _), (4, _), (0, _), (1, _), (2, _), (3, _)]) d_La_law_321 (by decide) rfl rfl ?_
    refine b_aln (pc2 := 324) d_La_law_323 rfl rfl ?_
    refine b_aln (pc2 := 325) d_La_law_324 rfl rfl ?_
    refine b_il (pc2 := 327) d_La_law_325 rfl rfl ?_
    refine b_ic (pc2 := 328) (x := Int32.ofNat 1) d_La_law_327 rfl rfl ?_
    refine b_pure (pc2 := 329) d_La_law_328 rfl rfl rfl ?_
    rw [i_add]
    refine b_ia0 (pc2 := 330) (q := (i + 1)) d_La_law_329 rfl (i_in (show i + 1 < n0 by omega) (by omega)) (i_tn (by omega)) rc0 rfl ?_
    rw [hj0]
    refine b_aln (pc2 := 331) d_La_law_330 rfl rfl ?_
    refine b_il (pc2 := 333) d_La_law_331 rfl rfl ?_
    refine b_ic (pc2 := 334) (x := Int32.ofNat 2) d_La_law_333 rfl rfl ?_
    refine b_pure (pc2 := 335) d_La_law_334 rfl rfl rfl ?_
    rw [i_add]
    refine b_ia0 (pc2 := 336) (q := (i + 2)) d_La_law_335 rfl (i_in (show i + 2 < n0 by omega) (by omega)) (i_tn (by omega)) rc0 rfl ?_
    rw [hj0]
    refine b_ifd (pc2 := 343) d_La_law_336 rfl rfl rfl rfl rfl (fun h336 => ?_) (fun h336 => ?_)
    · exact absurd h336 (h281)
    refine b_ic (pc2 := 340) (x := Int32.ofNat 1) d_La_law_339 rfl rfl ?_
    refine b_go (pc2 := 344) d_La_law_340 rfl ?_
    refine b_aln (pc2 := 345) d_La_law_344 rfl rfl ?_
    refine b_il (pc2 := 347) d_La_law_345 rfl rfl ?_
    refine b_ic (pc2 := 348) (x := Int32.ofNat 3) d_La_law_347 rfl rfl ?_
    refine b_pure (pc2 := 349) d_La_law_348 rfl rfl rfl ?_
    rw [i_add]
    refine b_ia0 (pc2 := 350) (q := (i + 3)) d_La_law_349 rfl (i_in (show i + 3 < n0 by omega) (by omega)) (i_tn (by omega)) rc0 rfl ?_
    rw [hj0]
    refine b_pure (pc2 := 351) d_La_law_350 rfl rfl rfl ?_
    refine b_bp (pc2 := 353) (x := Int32.ofNat 32) d_La_law_351 rfl rfl ?_
    refine b_pure (pc2 := 354) d_La_law_353 rfl rfl rfl ?_
    refine b_aln (pc2 := 355) d_La_law_354 rfl rfl ?_
    refine b_il (pc2 := 357) d_La_law_355 rfl rfl ?_
    refine b_ic (pc2 := 358) (x := Int32.ofNat 4) d_La_law_357 rfl rfl ?_
    refine b_pure (pc2 := 359) d_La_law_358 rfl rfl rfl ?_
    rw [i_add]
    refine b_ia0 (pc2 := 360) (q := (i + 4)) d_La_law_359 rfl (i_in (show i + 4 < n0 by omega) (by omega)) (i_tn (by omega)) rc0 rfl ?_
    rw [hj0]
    refine b_pure (pc2 := 361) d_La_law_360 rfl rfl rfl ?_
    refine b_ldc2 (pc2 := 364) d_La_law_361 rfl rfl ?_
    refine b_pure (pc2 := 365) d_La_law_364 rfl rfl rfl ?_
    refine b_pure (pc2 := 366) d_La_law_365 rfl rfl rfl ?_
    refine b_aln (pc2 := 367) d_La_law_366 rfl rfl ?_
    refine b_il (pc2 := 369) d_La_law_367 rfl rfl ?_
    refine b_ic (pc2 := 370) (x := Int32.ofNat 5) d_La_law_369 rfl rfl ?_
    refine b_pure (pc2 := 371) d_La_law_370 rfl rfl rfl ?_
    rw [i_add]
    refine b_ia0 (pc2 := 372) (q := (i + 5)) d_La_law_371 rfl (i_in (show i + 5 < n0 by omega) (by omega)) (i_tn (by omega)) rc0 rfl ?_
    rw [hj0]
    refine b_cv1 (pc2 := 375) (c2 := c + 1) (u2 := u + 6) (hmm2 12 W1 J1 _ _ (by decide)) d_La_law_372 q_12_91 (Nat.le_of_ble_eq_true rfl) rfl rfl (sh_130 n0) (Nat.le_of_ble_eq_true rfl) rfl rfl (by show c + 1 ≤ 601024; omega) (by show u + 6 ≤ 7293000; omega) rfl ?_
    refine b_is (pc2 := 377) (al2 := [(6, _), (5, _), (4, _), (0, _), (1, _), (2, _), (3, _)]) d_La_law_375 (by decide) rfl rfl ?_
    refine b_aln (pc2 := 378) d_La_law_377 rfl rfl ?_
    refine b_cv1 (pc2 := 381) (c2 := c + 1) (u2 := u + 6) (mo_thrown (by decide)) d_La_law_378 q_12_85 (Nat.le_of_ble_eq_true rfl) rfl rfl (sh_130 n0) (Nat.le_of_ble_eq_true rfl) rfl rfl (by show c + 1 ≤ 601024; omega) (by show u + 6 ≤ 7293000; omega) rfl ?_
    rw [show (jn J1 K1) 130 0 = Int32.ofNat k from hth]
    refine b_il (pc2 := 383) d_La_law_381 rfl rfl ?_
    refine b_ifd (pc2 := 388) d_La_law_383 rfl rfl rfl rfl rfl (fun h383 => ?_) (fun h383 => ?_)
    rotate_left
    · exact absurd (rfl) h383
    refine b_il (pc2 := 390) d_La_law_388 rfl rfl ?_
    refine b_ifd (pc2 := 405) d_La_law_390 rfl rfl rfl rfl rfl (fun h390 => ?_) (fun h390 => ?_)
    · rw [z_eq (by omega)] at h390
      refine b_go (pc2 := 1278) d_La_law_405 rfl ?_
      refine b_nf (al := [(4, _), (0, _), (1, _), (2, _), (3, _)]) (ks := [4, 0, 1, 2, 3]) (sub_c rfl (sub_c rfl (sub_c rfl (sub_c rfl (sub_c rfl (sub_n)))))) rfl (by decide) ?_
      dsimp only
      exact hK T _ _ _ W1 (jn J1 K1) _ (rel_jn hrel) (by omega) h0 (by omega) (by omega)
    · rw [z_eq (by omega)] at h390
      have hk0 : k = 0 := by omega
      subst hk0
      have hbv := hkb rfl
      subst hbv
      rw [if_pos rfl]
      refine b_aln (pc2 := 394) d_La_law_393 rfl rfl ?_
      refine b_ic (pc2 := 395) (x := Int32.ofNat 0) d_La_law_394 rfl rfl ?_
      refine b_la (pc2 := 396) (q := 0) d_La_law_395 (sh_166 n0) (i_in (i := 0) (by decide) (by decide)) rfl rfl ?_
      rw [u2_at]
      refine b_il (pc2 := 398) d_La_law_396 rfl rfl ?_
      refine b_pure (pc2 := 399) d_La_law_398 rfl rfl rfl ?_
      refine b_pure (pc2 := 400) d_La_law_399 rfl rfl rfl ?_
      refine b_ifd (pc2 := 405) d_La_law_400 rfl rfl rfl rfl rfl (fun h400 => ?_) (fun h400 => ?_)
      rotate_left
      · exact absurd (lg_self _) h400
      refine b_go (pc2 := 1278) d_La_law_405 rfl ?_
      refine b_nf (al := [(4, _), (0, _), (1, _), (2, _), (3, _)]) (ks := [4, 0, 1, 2, 3]) (sub_c rfl (sub_c rfl (sub_c rfl (sub_c rfl (sub_c rfl (sub_n)))))) rfl (by decide) ?_
      dsimp only
      exact hK T _ _ _ W1 (jn J1 K1) _ (rel_jn hrel) (by omega) h0 (by omega) (by omega)
theorem lw_2 (hi : i + 6 ≤ n0) (hn : n0 ≤ 3075) (hc : c + 1 ≤ 601024) (hu : u + 6 ≤ 7293000) (h : rel T W J J) (hT : T < 70000000) (hK : lwK n0 T i c u J Qh) : bH 12 (S0 n0) R0 mt_La_law Qh 408 [(4, .int (Int32.ofNat i)), (0, .ref 0), (1, .ref 1), (2, .ref 130), (3, .ref 166)] [] W J g L c u := by
  have hSR := SR0 n0
  refine b_aln (pc2 := 409) d_La_law_408 rfl rfl ?_
  refine b_aln (pc2 := 410) d_La_law_409 rfl rfl ?_
  refine b_il (pc2 := 412) d_La_law_410 rfl rfl ?_
  refine b_ic (pc2 := 413) (x := Int32.ofNat 1) d_La_law_412 rfl rfl ?_
  refine b_pure (pc2 := 414) d_La_law_413 rfl rfl rfl ?_
  rw [i_add]
  refine b_ia0 (pc2 := 415) (q := (i + 1)) d_La_law_414 rfl (i_in (show i + 1 < n0 by omega) (by omega)) (i_tn (by omega)) rc0 rfl ?_
  refine b_aln (pc2 := 416) d_La_law_415 rfl rfl ?_
  refine b_il (pc2 := 418) d_La_law_416 rfl rfl ?_
  refine b_ic (pc2 := 419) (x := Int32.ofNat 2) d_La_law_418 rfl rfl ?_
  refine b_pure (pc2 := 420) d_La_law_419 rfl rfl rfl ?_
  rw [i_add]
  refine b_ia0 (pc2 := 421) (q := (i + 2)) d_La_law_420 rfl (i_in (show i + 2 < n0 by omega) (by omega)) (i_tn (by omega)) rc0 rfl ?_
  refine b_ifd (pc2 := 428) d_La_law_421 rfl rfl rfl rfl rfl (fun h421 => ?_) (fun h421 => ?_)
  · refine b_ic (pc2 := 429) (x := Int32.ofNat 0) d_La_law_428 rfl rfl ?_
    obtain ⟨k, kg, W1, J1, K1, hk2, hcc, hmm2, hth, hrel, h0⟩ := sim_tell (n0 := n0) (hh := J 0 (i + 1)) (b := 0) (by decide) h
    have hcls := hcc 12 J g L (by decide)
    rw [jn_same] at hcls
    have hj0 : (jn J1 J) 0 = J 0 := h0
    refine b_cs1 (pc2 := 432) (c2 := c + 1) (u2 := u + 6) (hcls) d_La_law_429 q_12_92 (Or.inl rfl) (Nat.le_of_ble_eq_true rfl) rfl rfl (Nat.le_of_ble_eq_true rfl) rfl rfl (by show c + 1 ≤ 601024; omega) (by show u + 6 ≤ 7293000; omega) rfl ?_
    refine b_is (pc2 := 434) (al2 := [(5, _), (4, _), (0, _), (1, _), (2, _), (3, _)]) d_La_law_432 (by decide) rfl rfl ?_
    refine b_aln (pc2 := 435) d_La_law_434 rfl rfl ?_
    refine b_aln (pc2 := 436) d_La_law_435 rfl rfl ?_
    refine b_il (pc2 := 438) d_La_law_436 rfl rfl ?_
    refine b_ic (pc2 := 439) (x := Int32.ofNat 1) d_La_law_438 rfl rfl ?_
    refine b_pure (pc2 := 440) d_La_law_439 rfl rfl rfl ?_
    rw [i_add]
    refine b_ia0 (pc2 := 441) (q := (i + 1)) d_La_law_440 rfl (i_in (show i + 1 < n0 by omega) (by omega)) (i_tn (by omega)) rc0 rfl ?_
    rw [hj0]
    refine b_aln (pc2 := 442) d_La_law_441 rfl rfl ?_
    refine b_il (pc2 := 444) d_La_law_442 rfl rfl ?_
    refine b_ic (pc2 := 445) (x := Int32.ofNat 2) d_La_law_444 rfl rfl ?_
    refine b_pure (pc2 := 446) d_La_law_445 rfl rfl rfl ?_
    rw [i_add]
    refine b_ia0 (pc2 := 447) (q := (i + 2)) d_La_law_446 rfl (i_in (show i + 2 < n0 by omega) (by omega)) (i_tn (by omega)) rc0 rfl ?_
    rw [hj0]
    refine b_ifd (pc2 := 454) d_La_law_447 rfl rfl rfl rfl rfl (fun h447 => ?_) (fun h447 => ?_)
    rotate_left
    · exact absurd (h421) h447
    refine b_ic (pc2 := 455) (x := Int32.ofNat 0) d_La_law_454 rfl rfl ?_
    refine b_cv0 (pc2 := 458) (c2 := c + 1) (u2 := u + 6) (hmm2 12 W1 J1 _ _ (by decide)) d_La_law_455 q_12_95 (Nat.le_of_ble_eq_true rfl) rfl rfl (sh_130 n0) (Nat.le_of_ble_eq_true rfl) rfl rfl (by show c + 1 ≤ 601024; omega) (by show u + 6 ≤ 7293000; omega) rfl ?_
    refine b_aln (pc2 := 459) d_La_law_458 rfl rfl ?_
    refine b_cv1 (pc2 := 462) (c2 := c + 1) (u2 := u + 6) (mo_thrown (by decide)) d_La_law_459 q_12_85 (Nat.le_of_ble_eq_true rfl) rfl rfl (sh_130 n0) (Nat.le_of_ble_eq_true rfl) rfl rfl (by show c + 1 ≤ 601024; omega) (by show u + 6 ≤ 7293000; omega) rfl ?_
    rw [show (jn J1 K1) 130 0 = Int32.ofNat k from hth]
    refine b_il (pc2 := 464) d_La_law_462 rfl rfl ?_
    refine b_ifd (pc2 := 469) d_La_law_464 rfl rfl rfl rfl rfl (fun h464 => ?_) (fun h464 => ?_)
    rotate_left
    · exact absurd (rfl) h464
    refine b_go (pc2 := 1278) d_La_law_469 rfl ?_
    refine b_nf (al := [(4, _), (0, _), (1, _), (2, _), (3, _)]) (ks := [4, 0, 1, 2, 3]) (sub_c rfl (sub_c rfl (sub_c rfl (sub_c rfl (sub_c rfl (sub_n)))))) rfl (by decide) ?_
    dsimp only
    exact hK T _ _ _ W1 (jn J1 K1) _ (rel_jn hrel) (by omega) h0 (by omega) (by omega)
  · refine b_ic (pc2 := 425) (x := Int32.ofNat 1) d_La_law_424 rfl rfl ?_
    refine b_go (pc2 := 429) d_La_law_425 rfl ?_
    obtain ⟨k, kg, W1, J1, K1, hk2, hcc, hmm2, hth, hrel, h0⟩ := sim_tell (n0 := n0) (hh := J 0 (i + 1)) (b := 1) (by decide) h
    have hcls := hcc 12 J g L (by decide)
    rw [jn_same] at hcls
    have hj0 : (jn J1 J) 0 = J 0 := h0
    refine b_cs1 (pc2 := 432) (c2 := c + 1) (u2 := u + 6) (hcls) d_La_law_429 q_12_92 (Or.inl rfl) (Nat.le_of_ble_eq_true rfl) rfl rfl (Nat.le_of_ble_eq_true rfl) rfl rfl (by show c + 1 ≤ 601024; omega) (by show u + 6 ≤ 7293000; omega) rfl ?_
    refine b_is (pc2 := 434) (al2 := [(5, _), (4, _), (0, _), (1, _), (2, _), (3, _)]) d_La_law_432 (by decide) rfl rfl ?_
    refine b_aln (pc2 := 435) d_La_law_434 rfl rfl ?_
    refine b_aln (pc2 := 436) d_La_law_435 rfl rfl ?_
    refine b_il (pc2 := 438) d_La_law_436 rfl rfl ?_
    refine b_ic (pc2 := 439) (x := Int32.ofNat 1) d_La_law_438 rfl rfl ?_
    refine b_pure (pc2 := 440) d_La_law_439 rfl rfl rfl ?_
    rw [i_add]
    refine b_ia0 (pc2 := 441) (q := (i + 1)) d_La_law_440 rfl (i_in (show i + 1 < n0 by omega) (by omega)) (i_tn (by omega)) rc0 rfl ?_
    rw [hj0]
    refine b_aln (pc2 := 442) d_La_law_441 rfl rfl ?_
    refine b_il (pc2 := 444) d_La_law_442 rfl rfl ?_
    refine b_ic (pc2 := 445) (x := Int32.ofNat 2) d_La_law_444 rfl rfl ?_
    refine b_pure (pc2 := 446) d_La_law_445 rfl rfl rfl ?_
    rw [i_add]
    refine b_ia0 (pc2 := 447) (q := (i + 2)) d_La_law_446 rfl (i_in (show i + 2 < n0 by omega) (by omega)) (i_tn (by omega)) rc0 rfl ?_
    rw [hj0]
    refine b_ifd (pc2 := 454) d_La_law_447 rfl rfl rfl rfl rfl (fun h447 => ?_) (fun h447 => ?_)
    · exact absurd h447 (h421)
    refine b_ic (pc2 := 451) (x := Int32.ofNat 1) d_La_law_450 rfl rfl ?_
    refine b_go (pc2 := 455) d_La_law_451 rfl ?_
    refine b_cv0 (pc2 := 458) (c2 := c + 1) (u2 := u + 6) (hmm2 12 W1 J1 _ _ (by decide)) d_La_law_455 q_12_95 (Nat.le_of_ble_eq_true rfl) rfl rfl (sh_130 n0) (Nat.le_of_ble_eq_true rfl) rfl rfl (by show c + 1 ≤ 601024; omega) (by show u + 6 ≤ 7293000; omega) rfl ?_
    refine b_aln (pc2 := 459) d_La_law_458 rfl rfl ?_
    refine b_cv1 (pc2 := 462) (c2 := c + 1) (u2 := u + 6) (mo_thrown (by decide)) d_La_law_459 q_12_85 (Nat.le_of_ble_eq_true rfl) rfl rfl (sh_130 n0) (Nat.le_of_ble_eq_true rfl) rfl rfl (by show c + 1 ≤ 601024; omega) (by show u + 6 ≤ 7293000; omega) rfl ?_
    rw [show (jn J1 K1) 130 0 = Int32.ofNat k from hth]
    refine b_il (pc2 := 464) d_La_law_462 rfl rfl ?_
    refine b_ifd (pc2 := 469) d_La_law_464 rfl rfl rfl rfl rfl (fun h464 => ?_) (fun h464 => ?_)
    rotate_left
    · exact absurd (rfl) h464
    refine b_go (pc2 := 1278) d_La_law_469 rfl ?_
    refine b_nf (al := [(4, _), (0, _), (1, _), (2, _), (3, _)]) (ks := [4, 0, 1, 2, 3]) (sub_c rfl (sub_c rfl (sub_c rfl (sub_c rfl (sub_c rfl (sub_n)))))) rfl (by decide) ?_
    dsimp only
    exact hK T _ _ _ W1 (jn J1 K1) _ (rel_jn hrel) (by omega) h0 (by omega) (by omega)
theorem lw_3 (hi : i + 6 ≤ n0) (hn : n0 ≤ 3075) (hc : c + 1 ≤ 601024) (hu : u + 6 ≤ 7293000) (h : rel T W J J) (hT : T < 70000000) (hK : lwK n0 T i c u J Qh) : bH 12 (S0 n0) R0 mt_La_law Qh 472 [(4, .int (Int32.ofNat i)), (0, .ref 0), (1, .ref 1), (2, .ref 130), (3, .ref 166)] [] W J g L c u := by
  have hSR := SR0 n0
  refine b_aln (pc2 := 473) d_La_law_472 rfl rfl ?_
  refine b_aln (pc2 := 474) d_La_law_473 rfl rfl ?_
  refine b_il (pc2 := 476) d_La_law_474 rfl rfl ?_
  refine b_ic (pc2 := 477) (x := Int32.ofNat 1) d_La_law_476 rfl rfl ?_
  refine b_pure (pc2 := 478) d_La_law_477 rfl rfl rfl ?_
  rw [i_add]
  refine b_ia0 (pc2 := 479) (q := (i + 1)) d_La_law_478 rfl (i_in (show i + 1 < n0 by omega) (by omega)) (i_tn (by omega)) rc0 rfl ?_
  refine b_aln (pc2 := 480) d_La_law_479 rfl rfl ?_
  refine b_il (pc2 := 482) d_La_law_480 rfl rfl ?_
  refine b_ic (pc2 := 483) (x := Int32.ofNat 2) d_La_law_482 rfl rfl ?_
  refine b_pure (pc2 := 484) d_La_law_483 rfl rfl rfl ?_
  rw [i_add]
  refine b_ia0 (pc2 := 485) (q := (i + 2)) d_La_law_484 rfl (i_in (show i + 2 < n0 by omega) (by omega)) (i_tn (by omega)) rc0 rfl ?_
  obtain ⟨k, kg, W1, J1, K1, hk2, hcc, hmm2, hth, hrel, h0⟩ := sim_begin (n0 := n0) (op := J 0 (i + 1)) (a := J 0 (i + 2)) h
  have hcls := hcc 12 J g L (by decide)
  rw [jn_same] at hcls
  have hj0 : (jn J1 J) 0 = J 0 := h0
  refine b_cs1 (pc2 := 488) (c2 := c + 1) (u2 := u + 6) (hcls) d_La_law_485 q_12_96 (Or.inl rfl) (Nat.le_of_ble_eq_true rfl) rfl rfl (Nat.le_of_ble_eq_true rfl) rfl rfl (by show c + 1 ≤ 601024; omega) (by show u + 6 ≤ 7293000; omega) rfl ?_
  refine b_is (pc2 := 490) (al2 := [(5, _), (4, _), (0, _), (1, _), (2, _), (3, _)]) d_La_law_488 (by decide) rfl rfl ?_
  refine b_aln (pc2 := 491) d_La_law_490 rfl rfl ?_
  refine b_aln (pc2 := 492) d_La_law_491 rfl rfl ?_
  refine b_il (pc2 := 494) d_La_law_492 rfl rfl ?_
  refine b_ic (pc2 := 495) (x := Int32.ofNat 1) d_La_law_494 rfl rfl ?_
  refine b_pure (pc2 := 496) d_La_law_495 rfl rfl rfl ?_
  rw [i_add]
  refine b_ia0 (pc2 := 497) (q := (i + 1)) d_La_law_496 rfl (i_in (show i + 1 < n0 by omega) (by omega)) (i_tn (by omega)) rc0 rfl ?_
  rw [hj0]
  refine b_aln (pc2 := 498) d_La_law_497 rfl rfl ?_
  refine b_il (pc2 := 500) d_La_law_498 rfl rfl ?_
  refine b_ic (pc2 := 501) (x := Int32.ofNat 2) d_La_law_500 rfl rfl ?_
  refine b_pure (pc2 := 502) d_La_law_501 rfl rfl rfl ?_
  rw [i_add]
  refine b_ia0 (pc2 := 503) (q := (i + 2)) d_La_law_502 rfl (i_in (show i + 2 < n0 by omega) (by omega)) (i_tn (by omega)) rc0 rfl ?_
  rw [hj0]
  refine b_cv0 (pc2 := 506) (c2 := c + 1) (u2 := u + 6) (hmm2 12 W1 J1 _ _ (by decide)) d_La_law_503 q_12_99 (Nat.le_of_ble_eq_true rfl) rfl rfl (sh_130 n0) (Nat.le_of_ble_eq_true rfl) rfl rfl (by show c + 1 ≤ 601024; omega) (by show u + 6 ≤ 7293000; omega) rfl ?_
  refine b_aln (pc2 := 507) d_La_law_506 rfl rfl ?_
  refine b_cv1 (pc2 := 510) (c2 := c + 1) (u2 := u + 6) (mo_thrown (by decide)) d_La_law_507 q_12_85 (Nat.le_of_ble_eq_true rfl) rfl rfl (sh_130 n0) (Nat.le_of_ble_eq_true rfl) rfl rfl (by show c + 1 ≤ 601024; omega) (by show u + 6 ≤ 7293000; omega) rfl ?_
  rw [show (jn J1 K1) 130 0 = Int32.ofNat k from hth]
  refine b_il (pc2 := 512) d_La_law_510 rfl rfl ?_
  refine b_ifd (pc2 := 517) d_La_law_512 rfl rfl rfl rfl rfl (fun h512 => ?_) (fun h512 => ?_)
  rotate_left
  · exact absurd (rfl) h512
  refine b_go (pc2 := 1278) d_La_law_517 rfl ?_
  refine b_nf (al := [(4, _), (0, _), (1, _), (2, _), (3, _)]) (ks := [4, 0, 1, 2, 3]) (sub_c rfl (sub_c rfl (sub_c rfl (sub_c rfl (sub_c rfl (sub_n)))))) rfl (by decide) ?_
  dsimp only
  exact hK T _ _ _ W1 (jn J1 K1) _ (rel_jn hrel) (by omega) h0 (by omega) (by omega)
theorem lw_4 (hi : i + 6 ≤ n0) (hn : n0 ≤ 3075) (hc : c + 1 ≤ 601024) (hu : u + 6 ≤ 7293000) (h : rel T W J J) (hT : T < 70000000) (hK : lwK n0 T i c u J Qh) : bH 12 (S0 n0) R0 mt_La_law Qh 520 [(4, .int (Int32.ofNat i)), (0, .ref 0), (1, .ref 1), (2, .ref 130), (3, .ref 166)] [] W J g L c u := by
  have hSR := SR0 n0
  refine b_aln (pc2 := 521) d_La_law_520 rfl rfl ?_
  refine b_aln (pc2 := 522) d_La_law_521 rfl rfl ?_
  refine b_il (pc2 := 524) d_La_law_522 rfl rfl ?_
  refine b_ic (pc2 := 525) (x := Int32.ofNat 1) d_La_law_524 rfl rfl ?_
  refine b_pure (pc2 := 526) d_La_law_525 rfl rfl rfl ?_
  rw [i_add]
  refine b_ia0 (pc2 := 527) (q := (i + 1)) d_La_law_526 rfl (i_in (show i + 1 < n0 by omega) (by omega)) (i_tn (by omega)) rc0 rfl ?_
  refine b_aln (pc2 := 528) d_La_law_527 rfl rfl ?_
  refine b_il (pc2 := 530) d_La_law_528 rfl rfl ?_
  refine b_ic (pc2 := 531) (x := Int32.ofNat 2) d_La_law_530 rfl rfl ?_
  refine b_pure (pc2 := 532) d_La_law_531 rfl rfl rfl ?_
  rw [i_add]
  refine b_ia0 (pc2 := 533) (q := (i + 2)) d_La_law_532 rfl (i_in (show i + 2 < n0 by omega) (by omega)) (i_tn (by omega)) rc0 rfl ?_
  refine b_pure (pc2 := 534) d_La_law_533 rfl rfl rfl ?_
  refine b_bp (pc2 := 536) (x := Int32.ofNat 32) d_La_law_534 rfl rfl ?_
  refine b_pure (pc2 := 537) d_La_law_536 rfl rfl rfl ?_
  refine b_aln (pc2 := 538) d_La_law_537 rfl rfl ?_
  refine b_il (pc2 := 540) d_La_law_538 rfl rfl ?_
  refine b_ic (pc2 := 541) (x := Int32.ofNat 3) d_La_law_540 rfl rfl ?_
  refine b_pure (pc2 := 542) d_La_law_541 rfl rfl rfl ?_
  rw [i_add]
  refine b_ia0 (pc2 := 543) (q := (i + 3)) d_La_law_542 rfl (i_in (show i + 3 < n0 by omega) (by omega)) (i_tn (by omega)) rc0 rfl ?_
  refine b_pure (pc2 := 544) d_La_law_543 rfl rfl rfl ?_
  refine b_ldc2 (pc2 := 547) d_La_law_544 rfl rfl ?_
  refine b_pure (pc2 := 548) d_La_law_547 rfl rfl rfl ?_
  refine b_pure (pc2 := 549) d_La_law_548 rfl rfl rfl ?_
  refine b_aln (pc2 := 550) d_La_law_549 rfl rfl ?_
  refine b_il (pc2 := 552) d_La_law_550 rfl rfl ?_
  refine b_ic (pc2 := 553) (x := Int32.ofNat 4) d_La_law_552 rfl rfl ?_
  refine b_pure (pc2 := 554) d_La_law_553 rfl rfl rfl ?_
  rw [i_add]
  refine b_ia0 (pc2 := 555) (q := (i + 4)) d_La_law_554 rfl (i_in (show i + 4 < n0 by omega) (by omega)) (i_tn (by omega)) rc0 rfl ?_
  refine b_aln (pc2 := 556) d_La_law_555 rfl rfl ?_
  refine b_il (pc2 := 558) d_La_law_556 rfl rfl ?_
  refine b_ic (pc2 := 559) (x := Int32.ofNat 5) d_La_law_558 rfl rfl ?_
  refine b_pure (pc2 := 560) d_La_law_559 rfl rfl rfl ?_
  rw [i_add]
  refine b_ia0 (pc2 := 561) (q := (i + 5)) d_La_law_560 rfl (i_in (show i + 5 < n0 by omega) (by omega)) (i_tn (by omega)) rc0 rfl ?_
  refine b_ifd (pc2 := 568) d_La_law_561 rfl rfl rfl rfl rfl (fun h561 => ?_) (fun h561 => ?_)
  · refine b_ic (pc2 := 569) (x := Int32.ofNat 0) d_La_law_568 rfl rfl ?_
    obtain ⟨k, kg, W1, J1, K1, hk2, hcc, hmm2, hth, hrel, h0⟩ := sim_write (n0 := n0) (hh := J 0 (i + 1)) (v := lv (J 0 (i + 2)) (J 0 (i + 3))) (n := J 0 (i + 4)) (b := 0) (by decide) h
    have hcls := hcc 12 J g L (by decide)
    rw [jn_same] at hcls
    have hj0 : (jn J1 J) 0 = J 0 := h0
    refine b_cs1 (pc2 := 572) (c2 := c + 1) (u2 := u + 6) (hcls) d_La_law_569 q_12_100 (Or.inl rfl) (Nat.le_of_ble_eq_true rfl) rfl rfl (Nat.le_of_ble_eq_true rfl) rfl rfl (by show c + 1 ≤ 601024; omega) (by show u + 6 ≤ 7293000; omega) rfl ?_
    refine b_is (pc2 := 574) (al2 := [(5, _), (4, _), (0, _), (1, _), (2, _), (3, _)]) d_La_law_572 (by decide) rfl rfl ?_
    refine b_aln (pc2 := 575) d_La_law_574 rfl rfl ?_
    refine b_aln (pc2 := 576) d_La_law_575 rfl rfl ?_
    refine b_il (pc2 := 578) d_La_law_576 rfl rfl ?_
    refine b_ic (pc2 := 579) (x := Int32.ofNat 1) d_La_law_578 rfl rfl ?_
    refine b_pure (pc2 := 580) d_La_law_579 rfl rfl rfl ?_
    rw [i_add]
    refine b_ia0 (pc2 := 581) (q := (i + 1)) d_La_law_580 rfl (i_in (show i + 1 < n0 by omega) (by omega)) (i_tn (by omega)) rc0 rfl ?_
    rw [hj0]
    refine b_aln (pc2 := 582) d_La_law_581 rfl rfl ?_
    refine b_il (pc2 := 584) d_La_law_582 rfl rfl ?_
    refine b_ic (pc2 := 585) (x := Int32.ofNat 2) d_La_law_584 rfl rfl ?_
    refine b_pure (pc2 := 586) d_La_law_585 rfl rfl rfl ?_
    rw [i_add]
    refine b_ia0 (pc2 := 587) (q := (i + 2)) d_La_law_586 rfl (i_in (show i + 2 < n0 by omega) (by omega)) (i_tn (by omega)) rc0 rfl ?_
    rw [hj0]
    refine b_pure (pc2 := 588) d_La_law_587 rfl rfl rfl ?_
    refine b_bp (pc2 := 590) (x := Int32.ofNat 32) d_La_law_588 rfl rfl ?_
    refine b_pure (pc2 := 591) d_La_law_590 rfl rfl rfl ?_
    refine b_aln (pc2 := 592) d_La_law_591 rfl rfl ?_
    refine b_il (pc2 := 594) d_La_law_592 rfl rfl ?_
    refine b_ic (pc2 := 595) (x := Int32.ofNat 3) d_La_law_594 rfl rfl ?_
    refine b_pure (pc2 := 596) d_La_law_595 rfl rfl rfl ?_
    rw [i_add]
    refine b_ia0 (pc2 := 597) (q := (i + 3)) d_La_law_596 rfl (i_in (show i + 3 < n0 by omega) (by omega)) (i_tn (by omega)) rc0 rfl ?_
    rw [hj0]
    refine b_pure (pc2 := 598) d_La_law_597 rfl rfl rfl ?_
    refine b_ldc2 (pc2 := 601) d_La_law_598 rfl rfl ?_
    refine b_pure (pc2 := 602) d_La_law_601 rfl rfl rfl ?_
    refine b_pure (pc2 := 603) d_La_law_602 rfl rfl rfl ?_
    refine b_aln (pc2 := 604) d_La_law_603 rfl rfl ?_
    refine b_il (pc2 := 606) d_La_law_604 rfl rfl ?_
    refine b_ic (pc2 := 607) (x := Int32.ofNat 4) d_La_law_606 rfl rfl ?_
    refine b_pure (pc2 := 608) d_La_law_607 rfl rfl rfl ?_
    rw [i_add]
    refine b_ia0 (pc2 := 609) (q := (i + 4)) d_La_law_608 rfl (i_in (show i + 4 < n0 by omega) (by omega)) (i_tn (by omega)) rc0 rfl ?_
    rw [hj0]
    refine b_aln (pc2 := 610) d_La_law_609 rfl rfl ?_
    refine b_il (pc2 := 612) d_La_law_610 rfl rfl ?_
    refine b_ic (pc2 := 613) (x := Int32.ofNat 5) d_La_law_612 rfl rfl ?_
    refine b_pure (pc2 := 614) d_La_law_613 rfl rfl rfl ?_
    rw [i_add]
    refine b_ia0 (pc2 := 615) (q := (i + 5)) d_La_law_614 rfl (i_in (show i + 5 < n0 by omega) (by omega)) (i_tn (by omega)) rc0 rfl ?_
    rw [hj0]
    refine b_ifd (pc2 := 622) d_La_law_615 rfl rfl rfl rfl rfl (fun h615 => ?_) (fun h615 => ?_)
    rotate_left
    · exact absurd (h561) h615
    refine b_ic (pc2 := 623) (x := Int32.ofNat 0) d_La_law_622 rfl rfl ?_
    refine b_cv0 (pc2 := 626) (c2 := c + 1) (u2 := u + 6) (hmm2 12 W1 J1 _ _ (by decide)) d_La_law_623 q_12_103 (Nat.le_of_ble_eq_true rfl) rfl rfl (sh_130 n0) (Nat.le_of_ble_eq_true rfl) rfl rfl (by show c + 1 ≤ 601024; omega) (by show u + 6 ≤ 7293000; omega) rfl ?_
    refine b_aln (pc2 := 627) d_La_law_626 rfl rfl ?_
    refine b_cv1 (pc2 := 630) (c2 := c + 1) (u2 := u + 6) (mo_thrown (by decide)) d_La_law_627 q_12_85 (Nat.le_of_ble_eq_true rfl) rfl rfl (sh_130 n0) (Nat.le_of_ble_eq_true rfl) rfl rfl (by show c + 1 ≤ 601024; omega) (by show u + 6 ≤ 7293000; omega) rfl ?_
    rw [show (jn J1 K1) 130 0 = Int32.ofNat k from hth]
    refine b_il (pc2 := 632) d_La_law_630 rfl rfl ?_
    refine b_ifd (pc2 := 637) d_La_law_632 rfl rfl rfl rfl rfl (fun h632 => ?_) (fun h632 => ?_)
    rotate_left
    · exact absurd (rfl) h632
    refine b_go (pc2 := 1278) d_La_law_637 rfl ?_
    refine b_nf (al := [(4, _), (0, _), (1, _), (2, _), (3, _)]) (ks := [4, 0, 1, 2, 3]) (sub_c rfl (sub_c rfl (sub_c rfl (sub_c rfl (sub_c rfl (sub_n)))))) rfl (by decide) ?_
    dsimp only
    exact hK T _ _ _ W1 (jn J1 K1) _ (rel_jn hrel) (by omega) h0 (by omega) (by omega)
  · refine b_ic (pc2 := 565) (x := Int32.ofNat 1) d_La_law_564 rfl rfl ?_
    refine b_go (pc2 := 569) d_La_law_565 rfl ?_
    obtain ⟨k, kg, W1, J1, K1, hk2, hcc, hmm2, hth, hrel, h0⟩ := sim_write (n0 := n0) (hh := J 0 (i + 1)) (v := lv (J 0 (i + 2)) (J 0 (i + 3))) (n := J 0 (i + 4)) (b := 1) (by decide) h
    have hcls := hcc 12 J g L (by decide)
    rw [jn_same] at hcls
    have hj0 : (jn J1 J) 0 = J 0 := h0
    refine b_cs1 (pc2 := 572) (c2 := c + 1) (u2 := u + 6) (hcls) d_La_law_569 q_12_100 (Or.inl rfl) (Nat.le_of_ble_eq_true rfl) rfl rfl (Nat.le_of_ble_eq_true rfl) rfl rfl (by show c + 1 ≤ 601024; omega) (by show u + 6 ≤ 7293000; omega) rfl ?_
    refine b_is (pc2 := 574) (al2 := [(5, _), (4, _), (0, _), (1, _), (2, _), (3, _)]) d_La_law_572 (by decide) rfl rfl ?_
    refine b_aln (pc2 := 575) d_La_law_574 rfl rfl ?_
    refine b_aln (pc2 := 576) d_La_law_575 rfl rfl ?_
    refine b_il (pc2 := 578) d_La_law_576 rfl rfl ?_
    refine b_ic (pc2 := 579) (x := Int32.ofNat 1) d_La_law_578 rfl rfl ?_
    refine b_pure (pc2 := 580) d_La_law_579 rfl rfl rfl ?_
    rw [i_add]
    refine b_ia0 (pc2 := 581) (q := (i + 1)) d_La_law_580 rfl (i_in (show i + 1 < n0 by omega) (by omega)) (i_tn (by omega)) rc0 rfl ?_
    rw [hj0]
    refine b_aln (pc2 := 582) d_La_law_581 rfl rfl ?_
    refine b_il (pc2 := 584) d_La_law_582 rfl rfl ?_
    refine b_ic (pc2 := 585) (x := Int32.ofNat 2) d_La_law_584 rfl rfl ?_
    refine b_pure (pc2 := 586) d_La_law_585 rfl rfl rfl ?_
    rw [i_add]
    refine b_ia0 (pc2 := 587) (q := (i + 2)) d_La_law_586 rfl (i_in (show i + 2 < n0 by omega) (by omega)) (i_tn (by omega)) rc0 rfl ?_
    rw [hj0]
    refine b_pure (pc2 := 588) d_La_law_587 rfl rfl rfl ?_
    refine b_bp (pc2 := 590) (x := Int32.ofNat 32) d_La_law_588 rfl rfl ?_
    refine b_pure (pc2 := 591) d_La_law_590 rfl rfl rfl ?_
    refine b_aln (pc2 := 592) d_La_law_591 rfl rfl ?_
    refine b_il (pc2 := 594) d_La_law_592 rfl rfl ?_
    refine b_ic (pc2 := 595) (x := Int32.ofNat 3) d_La_law_594 rfl rfl ?_
    refine b_pure (pc2 := 596) d_La_law_595 rfl rfl rfl ?_
    rw [i_add]
    refine b_ia0 (pc2 := 597) (q := (i + 3)) d_La_law_596 rfl (i_in (show i + 3 < n0 by omega) (by omega)) (i_tn (by omega)) rc0 rfl ?_
    rw [hj0]
    refine b_pure (pc2 := 598) d_La_law_597 rfl rfl rfl ?_
    refine b_ldc2 (pc2 := 601) d_La_law_598 rfl rfl ?_
    refine b_pure (pc2 := 602) d_La_law_601 rfl rfl rfl ?_
    refine b_pure (pc2 := 603) d_La_law_602 rfl rfl rfl ?_
    refine b_aln (pc2 := 604) d_La_law_603 rfl rfl ?_
    refine b_il (pc2 := 606) d_La_law_604 rfl rfl ?_
    refine b_ic (pc2 := 607) (x := Int32.ofNat 4) d_La_law_606 rfl rfl ?_
    refine b_pure (pc2 := 608) d_La_law_607 rfl rfl rfl ?_
    rw [i_add]
    refine b_ia0 (pc2 := 609) (q := (i + 4)) d_La_law_608 rfl (i_in (show i + 4 < n0 by omega) (by omega)) (i_tn (by omega)) rc0 rfl ?_
    rw [hj0]
    refine b_aln (pc2 := 610) d_La_law_609 rfl rfl ?_
    refine b_il (pc2 := 612) d_La_law_610 rfl rfl ?_
    refine b_ic (pc2 := 613) (x := Int32.ofNat 5) d_La_law_612 rfl rfl ?_
    refine b_pure (pc2 := 614) d_La_law_613 rfl rfl rfl ?_
    rw [i_add]
    refine b_ia0 (pc2 := 615) (q := (i + 5)) d_La_law_614 rfl (i_in (show i + 5 < n0 by omega) (by omega)) (i_tn (by omega)) rc0 rfl ?_
    rw [hj0]
    refine b_ifd (pc2 := 622) d_La_law_615 rfl rfl rfl rfl rfl (fun h615 => ?_) (fun h615 => ?_)
    · exact absurd h615 (h561)
    refine b_ic (pc2 := 619) (x := Int32.ofNat 1) d_La_law_618 rfl rfl ?_
    refine b_go (pc2 := 623) d_La_law_619 rfl ?_
    refine b_cv0 (pc2 := 626) (c2 := c + 1) (u2 := u + 6) (hmm2 12 W1 J1 _ _ (by decide)) d_La_law_623 q_12_103 (Nat.le_of_ble_eq_true rfl) rfl rfl (sh_130 n0) (Nat.le_of_ble_eq_true rfl) rfl rfl (by show c + 1 ≤ 601024; omega) (by show u + 6 ≤ 7293000; omega) rfl ?_
    refine b_aln (pc2 := 627) d_La_law_626 rfl rfl ?_
    refine b_cv1 (pc2 := 630) (c2 := c + 1) (u2 := u + 6) (mo_thrown (by decide)) d_La_law_627 q_12_85 (Nat.le_of_ble_eq_true rfl) rfl rfl (sh_130 n0) (Nat.le_of_ble_eq_true rfl) rfl rfl (by show c + 1 ≤ 601024; omega) (by show u + 6 ≤ 7293000; omega) rfl ?_
    rw [show (jn J1 K1) 130 0 = Int32.ofNat k from hth]
    refine b_il (pc2 := 632) d_La_law_630 rfl rfl ?_
    refine b_ifd (pc2 := 637) d_La_law_632 rfl rfl rfl rfl rfl (fun h632 => ?_) (fun h632 => ?_)
    rotate_left
    · exact absurd (rfl) h632
    refine b_go (pc2 := 1278) d_La_law_637 rfl ?_
    refine b_nf (al := [(4, _), (0, _), (1, _), (2, _), (3, _)]) (ks := [4, 0, 1, 2, 3]) (sub_c rfl (sub_c rfl (sub_c rfl (sub_c rfl (sub_c rfl (sub_n)))))) rfl (by decide) ?_
    dsimp only
    exact hK T _ _ _ W1 (jn J1 K1) _ (rel_jn hrel) (by omega) h0 (by omega) (by omega)
theorem lw_5 (hi : i + 6 ≤ n0) (hn : n0 ≤ 3075) (hc : c + 1 ≤ 601024) (hu : u + 6 ≤ 7293000) (h : rel T W J J) (hT : T < 70000000) (hK : lwK n0 T i c u J Qh) : bH 12 (S0 n0) R0 mt_La_law Qh 640 [(4, .int (Int32.ofNat i)), (0, .ref 0), (1, .ref 1), (2, .ref 130), (3, .ref 166)] [] W J g L c u := by
  have hSR := SR0 n0
  refine b_aln (pc2 := 641) d_La_law_640 rfl rfl ?_
  refine b_aln (pc2 := 642) d_La_law_641 rfl rfl ?_
  refine b_il (pc2 := 644) d_La_law_642 rfl rfl ?_
  refine b_ic (pc2 := 645) (x := Int32.ofNat 1) d_La_law_644 rfl rfl ?_
  refine b_pure (pc2 := 646) d_La_law_645 rfl rfl rfl ?_
  rw [i_add]
  refine b_ia0 (pc2 := 647) (q := (i + 1)) d_La_law_646 rfl (i_in (show i + 1 < n0 by omega) (by omega)) (i_tn (by omega)) rc0 rfl ?_
  refine b_pure (pc2 := 648) d_La_law_647 rfl rfl rfl ?_
  refine b_bp (pc2 := 650) (x := Int32.ofNat 32) d_La_law_648 rfl rfl ?_
  refine b_pure (pc2 := 651) d_La_law_650 rfl rfl rfl ?_
  refine b_aln (pc2 := 652) d_La_law_651 rfl rfl ?_
  refine b_il (pc2 := 654) d_La_law_652 rfl rfl ?_
  refine b_ic (pc2 := 655) (x := Int32.ofNat 2) d_La_law_654 rfl rfl ?_
  refine b_pure (pc2 := 656) d_La_law_655 rfl rfl rfl ?_
  rw [i_add]
  refine b_ia0 (pc2 := 657) (q := (i + 2)) d_La_law_656 rfl (i_in (show i + 2 < n0 by omega) (by omega)) (i_tn (by omega)) rc0 rfl ?_
  refine b_pure (pc2 := 658) d_La_law_657 rfl rfl rfl ?_
  refine b_ldc2 (pc2 := 661) d_La_law_658 rfl rfl ?_
  refine b_pure (pc2 := 662) d_La_law_661 rfl rfl rfl ?_
  refine b_pure (pc2 := 663) d_La_law_662 rfl rfl rfl ?_
  refine b_aln (pc2 := 664) d_La_law_663 rfl rfl ?_
  refine b_il (pc2 := 666) d_La_law_664 rfl rfl ?_
  refine b_ic (pc2 := 667) (x := Int32.ofNat 3) d_La_law_666 rfl rfl ?_
  refine b_pure (pc2 := 668) d_La_law_667 rfl rfl rfl ?_
  rw [i_add]
  refine b_ia0 (pc2 := 669) (q := (i + 3)) d_La_law_668 rfl (i_in (show i + 3 < n0 by omega) (by omega)) (i_tn (by omega)) rc0 rfl ?_
  obtain ⟨k, kg, W1, J1, K1, hk2, hcc, hmm2, hth, hrel, h0⟩ := sim_raw (n0 := n0) (v := lv (J 0 (i + 1)) (J 0 (i + 2))) (n := J 0 (i + 3)) h
  have hcls := hcc 12 J g L (by decide)
  rw [jn_same] at hcls
  have hj0 : (jn J1 J) 0 = J 0 := h0
  refine b_cs1 (pc2 := 672) (c2 := c + 1) (u2 := u + 6) (hcls) d_La_law_669 q_12_104 (Or.inl rfl) (Nat.le_of_ble_eq_true rfl) rfl rfl (Nat.le_of_ble_eq_true rfl) rfl rfl (by show c + 1 ≤ 601024; omega) (by show u + 6 ≤ 7293000; omega) rfl ?_
  refine b_is (pc2 := 674) (al2 := [(5, _), (4, _), (0, _), (1, _), (2, _), (3, _)]) d_La_law_672 (by decide) rfl rfl ?_
  refine b_aln (pc2 := 675) d_La_law_674 rfl rfl ?_
  refine b_aln (pc2 := 676) d_La_law_675 rfl rfl ?_
  refine b_il (pc2 := 678) d_La_law_676 rfl rfl ?_
  refine b_ic (pc2 := 679) (x := Int32.ofNat 1) d_La_law_678 rfl rfl ?_
  refine b_pure (pc2 := 680) d_La_law_679 rfl rfl rfl ?_
  rw [i_add]
  refine b_ia0 (pc2 := 681) (q := (i + 1)) d_La_law_680 rfl (i_in (show i + 1 < n0 by omega) (by omega)) (i_tn (by omega)) rc0 rfl ?_
  rw [hj0]
  refine b_pure (pc2 := 682) d_La_law_681 rfl rfl rfl ?_
  refine b_bp (pc2 := 684) (x := Int32.ofNat 32) d_La_law_682 rfl rfl ?_
  refine b_pure (pc2 := 685) d_La_law_684 rfl rfl rfl ?_
  refine b_aln (pc2 := 686) d_La_law_685 rfl rfl ?_
  refine b_il (pc2 := 688) d_La_law_686 rfl rfl ?_
  refine b_ic (pc2 := 689) (x := Int32.ofNat 2) d_La_law_688 rfl rfl ?_
  refine b_pure (pc2 := 690) d_La_law_689 rfl rfl rfl ?_
  rw [i_add]
  refine b_ia0 (pc2 := 691) (q := (i + 2)) d_La_law_690 rfl (i_in (show i + 2 < n0 by omega) (by omega)) (i_tn (by omega)) rc0 rfl ?_
  rw [hj0]
  refine b_pure (pc2 := 692) d_La_law_691 rfl rfl rfl ?_
  refine b_ldc2 (pc2 := 695) d_La_law_692 rfl rfl ?_
  refine b_pure (pc2 := 696) d_La_law_695 rfl rfl rfl ?_
  refine b_pure (pc2 := 697) d_La_law_696 rfl rfl rfl ?_
  refine b_aln (pc2 := 698) d_La_law_697 rfl rfl ?_
  refine b_il (pc2 := 700) d_La_law_698 rfl rfl ?_
  refine b_ic (pc2 := 701) (x := Int32.ofNat 3) d_La_law_700 rfl rfl ?_
  refine b_pure (pc2 := 702) d_La_law_701 rfl rfl rfl ?_
  rw [i_add]
  refine b_ia0 (pc2 := 703) (q := (i + 3)) d_La_law_702 rfl (i_in (show i + 3 < n0 by omega) (by omega)) (i_tn (by omega)) rc0 rfl ?_
  rw [hj0]
  refine b_cv0 (pc2 := 706) (c2 := c + 1) (u2 := u + 6) (hmm2 12 W1 J1 _ _ (by decide)) d_La_law_703 q_12_107 (Nat.le_of_ble_eq_true rfl) rfl rfl (sh_130 n0) (Nat.le_of_ble_eq_true rfl) rfl rfl (by show c + 1 ≤ 601024; omega) (by show u + 6 ≤ 7293000; omega) rfl ?_
  refine b_aln (pc2 := 707) d_La_law_706 rfl rfl ?_
  refine b_cv1 (pc2 := 710) (c2 := c + 1) (u2 := u + 6) (mo_thrown (by decide)) d_La_law_707 q_12_85 (Nat.le_of_ble_eq_true rfl) rfl rfl (sh_130 n0) (Nat.le_of_ble_eq_true rfl) rfl rfl (by show c + 1 ≤ 601024; omega) (by show u + 6 ≤ 7293000; omega) rfl ?_
  rw [show (jn J1 K1) 130 0 = Int32.ofNat k from hth]
  refine b_il (pc2 := 712) d_La_law_710 rfl rfl ?_
  refine b_ifd (pc2 := 717) d_La_law_712 rfl rfl rfl rfl rfl (fun h712 => ?_) (fun h712 => ?_)
  rotate_left
  · exact absurd (rfl) h712
  refine b_go (pc2 := 1278) d_La_law_717 rfl ?_
  refine b_nf (al := [(4, _), (0, _), (1, _), (2, _), (3, _)]) (ks := [4, 0, 1, 2, 3]) (sub_c rfl (sub_c rfl (sub_c rfl (sub_c rfl (sub_c rfl (sub_n)))))) rfl (by decide) ?_
  dsimp only
  exact hK T _ _ _ W1 (jn J1 K1) _ (rel_jn hrel) (by omega) h0 (by omega) (by omega)
theorem lw_6 (hi : i + 6 ≤ n0) (hn : n0 ≤ 3075) (hc : c + 1 ≤ 601024) (hu : u + 6 ≤ 7293000) (h : rel T W J J) (hT : T < 70000000) (hK : lwK n0 T i c u J Qh) : bH 12 (S0 n0) R0 mt_La_law Qh 720 [(4, .int (Int32.ofNat i)), (0, .ref 0), (1, .ref 1), (2, .ref 130), (3, .ref 166)] [] W J g L c u := by
  have hSR := SR0 n0
  refine b_aln (pc2 := 721) d_La_law_720 rfl rfl ?_
  refine b_aln (pc2 := 722) d_La_law_721 rfl rfl ?_
  refine b_il (pc2 := 724) d_La_law_722 rfl rfl ?_
  refine b_ic (pc2 := 725) (x := Int32.ofNat 1) d_La_law_724 rfl rfl ?_
  refine b_pure (pc2 := 726) d_La_law_725 rfl rfl rfl ?_
  rw [i_add]
  refine b_ia0 (pc2 := 727) (q := (i + 1)) d_La_law_726 rfl (i_in (show i + 1 < n0 by omega) (by omega)) (i_tn (by omega)) rc0 rfl ?_
  refine b_aln (pc2 := 728) d_La_law_727 rfl rfl ?_
  refine b_il (pc2 := 730) d_La_law_728 rfl rfl ?_
  refine b_ic (pc2 := 731) (x := Int32.ofNat 2) d_La_law_730 rfl rfl ?_
  refine b_pure (pc2 := 732) d_La_law_731 rfl rfl rfl ?_
  rw [i_add]
  refine b_ia0 (pc2 := 733) (q := (i + 2)) d_La_law_732 rfl (i_in (show i + 2 < n0 by omega) (by omega)) (i_tn (by omega)) rc0 rfl ?_
  refine b_pure (pc2 := 734) d_La_law_733 rfl rfl rfl ?_
  refine b_bp (pc2 := 736) (x := Int32.ofNat 32) d_La_law_734 rfl rfl ?_
  refine b_pure (pc2 := 737) d_La_law_736 rfl rfl rfl ?_
  refine b_aln (pc2 := 738) d_La_law_737 rfl rfl ?_
  refine b_il (pc2 := 740) d_La_law_738 rfl rfl ?_
  refine b_ic (pc2 := 741) (x := Int32.ofNat 3) d_La_law_740 rfl rfl ?_
  refine b_pure (pc2 := 742) d_La_law_741 rfl rfl rfl ?_
  rw [i_add]
  refine b_ia0 (pc2 := 743) (q := (i + 3)) d_La_law_742 rfl (i_in (show i + 3 < n0 by omega) (by omega)) (i_tn (by omega)) rc0 rfl ?_
  refine b_pure (pc2 := 744) d_La_law_743 rfl rfl rfl ?_
  refine b_ldc2 (pc2 := 747) d_La_law_744 rfl rfl ?_
  refine b_pure (pc2 := 748) d_La_law_747 rfl rfl rfl ?_
  refine b_pure (pc2 := 749) d_La_law_748 rfl rfl rfl ?_
  refine b_aln (pc2 := 750) d_La_law_749 rfl rfl ?_
  refine b_il (pc2 := 752) d_La_law_750 rfl rfl ?_
  refine b_ic (pc2 := 753) (x := Int32.ofNat 4) d_La_law_752 rfl rfl ?_
  refine b_pure (pc2 := 754) d_La_law_753 rfl rfl rfl ?_
  rw [i_add]
  refine b_ia0 (pc2 := 755) (q := (i + 4)) d_La_law_754 rfl (i_in (show i + 4 < n0 by omega) (by omega)) (i_tn (by omega)) rc0 rfl ?_
  refine b_pure (pc2 := 756) d_La_law_755 rfl rfl rfl ?_
  refine b_bp (pc2 := 758) (x := Int32.ofNat 32) d_La_law_756 rfl rfl ?_
  refine b_pure (pc2 := 759) d_La_law_758 rfl rfl rfl ?_
  refine b_aln (pc2 := 760) d_La_law_759 rfl rfl ?_
  refine b_il (pc2 := 762) d_La_law_760 rfl rfl ?_
  refine b_ic (pc2 := 763) (x := Int32.ofNat 5) d_La_law_762 rfl rfl ?_
  refine b_pure (pc2 := 764) d_La_law_763 rfl rfl rfl ?_
  rw [i_add]
  refine b_ia0 (pc2 := 765) (q := (i + 5)) d_La_law_764 rfl (i_in (show i + 5 < n0 by omega) (by omega)) (i_tn (by omega)) rc0 rfl ?_
  refine b_pure (pc2 := 766) d_La_law_765 rfl rfl rfl ?_
  refine b_ldc2 (pc2 := 769) d_La_law_766 rfl rfl ?_
  refine b_pure (pc2 := 770) d_La_law_769 rfl rfl rfl ?_
  refine b_pure (pc2 := 771) d_La_law_770 rfl rfl rfl ?_
  refine b_aln (pc2 := 772) d_La_law_771 rfl rfl ?_
  obtain ⟨k, kg, v, b, W1, J1, K1, hk2, hkb, hcc, hmm2, hth, hrel, h0⟩ := sim_event (n0 := n0) (f := J 0 (i + 1)) (up := lv (J 0 (i + 2)) (J 0 (i + 3))) (dw := lv (J 0 (i + 4)) (J 0 (i + 5))) h hT
  have hcls := hcc 12 J g L (by decide)
  rw [jn_same] at hcls
  have hj0 : (jn J1 J) 0 = J 0 := h0
  refine b_cs1 (pc2 := 775) (c2 := c + 1) (u2 := u + 6) (hcls) d_La_law_772 q_12_108 (Or.inl rfl) (Nat.le_of_ble_eq_true rfl) rfl rfl (Nat.le_of_ble_eq_true rfl) rfl rfl (by show c + 1 ≤ 601024; omega) (by show u + 6 ≤ 7293000; omega) rfl ?_
  refine b_is (pc2 := 777) (al2 := [(5, _), (4, _), (0, _), (1, _), (2, _), (3, _)]) d_La_law_775 (by decide) rfl rfl ?_
  refine b_aln (pc2 := 778) d_La_law_777 rfl rfl ?_
  refine b_aln (pc2 := 779) d_La_law_778 rfl rfl ?_
  refine b_il (pc2 := 781) d_La_law_779 rfl rfl ?_
  refine b_ic (pc2 := 782) (x := Int32.ofNat 1) d_La_law_781 rfl rfl ?_
  refine b_pure (pc2 := 783) d_La_law_782 rfl rfl rfl ?_
  rw [i_add]
  refine b_ia0 (pc2 := 784) (q := (i + 1)) d_La_law_783 rfl (i_in (show i + 1 < n0 by omega) (by omega)) (i_tn (by omega)) rc0 rfl ?_
  rw [hj0]
  refine b_aln (pc2 := 785) d_La_law_784 rfl rfl ?_
  refine b_il (pc2 := 787) d_La_law_785 rfl rfl ?_
  refine b_ic (pc2 := 788) (x := Int32.ofNat 2) d_La_law_787 rfl rfl ?_
  refine b_pure (pc2 := 789) d_La_law_788 rfl rfl rfl ?_
  rw [i_add]
  refine b_ia0 (pc2 := 790) (q := (i + 2)) d_La_law_789 rfl (i_in (show i + 2 < n0 by omega) (by omega)) (i_tn (by omega)) rc0 rfl ?_
  rw [hj0]
  refine b_pure (pc2 := 791) d_La_law_790 rfl rfl rfl ?_
  refine b_bp (pc2 := 793) (x := Int32.ofNat 32) d_La_law_791 rfl rfl ?_
  refine b_pure (pc2 := 794) d_La_law_793 rfl rfl rfl ?_
  refine b_aln (pc2 := 795) d_La_law_794 rfl rfl ?_
  refine b_il (pc2 := 797) d_La_law_795 rfl rfl ?_
  refine b_ic (pc2 := 798) (x := Int32.ofNat 3) d_La_law_797 rfl rfl ?_
  refine b_pure (pc2 := 799) d_La_law_798 rfl rfl rfl ?_
  rw [i_add]
  refine b_ia0 (pc2 := 800) (q := (i + 3)) d_La_law_799 rfl (i_in (show i + 3 < n0 by omega) (by omega)) (i_tn (by omega)) rc0 rfl ?_
  rw [hj0]
  refine b_pure (pc2 := 801) d_La_law_800 rfl rfl rfl ?_
  refine b_ldc2 (pc2 := 804) d_La_law_801 rfl rfl ?_
  refine b_pure (pc2 := 805) d_La_law_804 rfl rfl rfl ?_
  refine b_pure (pc2 := 806) d_La_law_805 rfl rfl rfl ?_
  refine b_aln (pc2 := 807) d_La_law_806 rfl rfl ?_
  refine b_il (pc2 := 809) d_La_law_807 rfl rfl ?_
  refine b_ic (pc2 := 810) (x := Int32.ofNat 4) d_La_law_809 rfl rfl ?_
  refine b_pure (pc2 := 811) d_La_law_810 rfl rfl rfl ?_
  rw [i_add]
  refine b_ia0 (pc2 := 812) (q := (i + 4)) d_La_law_811 rfl (i_in (show i + 4 < n0 by omega) (by omega)) (i_tn (by omega)) rc0 rfl ?_
  rw [hj0]
  refine b_pure (pc2 := 813) d_La_law_812 rfl rfl rfl ?_
  refine b_bp (pc2 := 815) (x := Int32.ofNat 32) d_La_law_813 rfl rfl ?_
  refine b_pure (pc2 := 816) d_La_law_815 rfl rfl rfl ?_
  refine b_aln (pc2 := 817) d_La_law_816 rfl rfl ?_
  refine b_il (pc2 := 819) d_La_law_817 rfl rfl ?_
  refine b_ic (pc2 := 820) (x := Int32.ofNat 5) d_La_law_819 rfl rfl ?_
  refine b_pure (pc2 := 821) d_La_law_820 rfl rfl rfl ?_
  rw [i_add]
  refine b_ia0 (pc2 := 822) (q := (i + 5)) d_La_law_821 rfl (i_in (show i + 5 < n0 by omega) (by omega)) (i_tn (by omega)) rc0 rfl ?_
  rw [hj0]
  refine b_pure (pc2 := 823) d_La_law_822 rfl rfl rfl ?_
  refine b_ldc2 (pc2 := 826) d_La_law_823 rfl rfl ?_
  refine b_pure (pc2 := 827) d_La_law_826 rfl rfl rfl ?_
  refine b_pure (pc2 := 828) d_La_law_827 rfl rfl rfl ?_
  refine b_cv1 (pc2 := 831) (c2 := c + 1) (u2 := u + 6) (hmm2 12 W1 J1 _ _ (by decide)) d_La_law_828 q_12_111 (Nat.le_of_ble_eq_true rfl) rfl rfl (sh_130 n0) (Nat.le_of_ble_eq_true rfl) rfl rfl (by show c + 1 ≤ 601024; omega) (by show u + 6 ≤ 7293000; omega) rfl ?_
  refine b_is (pc2 := 833) (al2 := [(6, _), (5, _), (4, _), (0, _), (1, _), (2, _), (3, _)]) d_La_law_831 (by decide) rfl rfl ?_
  refine b_aln (pc2 := 834) d_La_law_833 rfl rfl ?_
  refine b_cv1 (pc2 := 837) (c2 := c + 1) (u2 := u + 6) (mo_thrown (by decide)) d_La_law_834 q_12_85 (Nat.le_of_ble_eq_true rfl) rfl rfl (sh_130 n0) (Nat.le_of_ble_eq_true rfl) rfl rfl (by show c + 1 ≤ 601024; omega) (by show u + 6 ≤ 7293000; omega) rfl ?_
  rw [show (jn J1 K1) 130 0 = Int32.ofNat k from hth]
  refine b_il (pc2 := 839) d_La_law_837 rfl rfl ?_
  refine b_ifd (pc2 := 844) d_La_law_839 rfl rfl rfl rfl rfl (fun h839 => ?_) (fun h839 => ?_)
  rotate_left
  · exact absurd (rfl) h839
  refine b_il (pc2 := 846) d_La_law_844 rfl rfl ?_
  refine b_ifd (pc2 := 861) d_La_law_846 rfl rfl rfl rfl rfl (fun h846 => ?_) (fun h846 => ?_)
  · rw [z_eq (by omega)] at h846
    refine b_go (pc2 := 1278) d_La_law_861 rfl ?_
    refine b_nf (al := [(4, _), (0, _), (1, _), (2, _), (3, _)]) (ks := [4, 0, 1, 2, 3]) (sub_c rfl (sub_c rfl (sub_c rfl (sub_c rfl (sub_c rfl (sub_n)))))) rfl (by decide) ?_
    dsimp only
    exact hK (T + 1) _ _ _ W1 (jn J1 K1) _ (rel_jn hrel) (by omega) h0 (by omega) (by omega)
  · rw [z_eq (by omega)] at h846
    have hk0 : k = 0 := by omega
    subst hk0
    have hbv := hkb rfl
    subst hbv
    rw [if_pos rfl]
    refine b_aln (pc2 := 850) d_La_law_849 rfl rfl ?_
    refine b_ic (pc2 := 851) (x := Int32.ofNat 0) d_La_law_850 rfl rfl ?_
    refine b_la (pc2 := 852) (q := 0) d_La_law_851 (sh_166 n0) (i_in (i := 0) (by decide) (by decide)) rfl rfl ?_
    rw [u2_at]
    refine b_il (pc2 := 854) d_La_law_852 rfl rfl ?_
    refine b_pure (pc2 := 855) d_La_law_854 rfl rfl rfl ?_
    refine b_pure (pc2 := 856) d_La_law_855 rfl rfl rfl ?_
    refine b_ifd (pc2 := 861) d_La_law_856 rfl rfl rfl rfl rfl (fun h856 => ?_) (fun h856 => ?_)
    rotate_left
    · exact absurd (lg_self _) h856
    refine b_go (pc2 := 1278) d_La_law_861 rfl ?_
    refine b_nf (al := [(4, _), (0, _), (1, _), (2, _), (3, _)]) (ks := [4, 0, 1, 2, 3]) (sub_c rfl (sub_c rfl (sub_c rfl (sub_c rfl (sub_c rfl (sub_n)))))) rfl (by decide) ?_
    dsimp only
    exact hK (T + 1) _ _ _ W1 (jn J1 K1) _ (rel_jn hrel) (by omega) h0 (by omega) (by omega)
theorem lw_7 (hi : i + 6 ≤ n0) (hn : n0 ≤ 3075) (hc : c + 1 ≤ 601024) (hu : u + 6 ≤ 7293000) (h : rel T W J J) (hT : T < 70000000) (hK : lwK n0 T i c u J Qh) : bH 12 (S0 n0) R0 mt_La_law Qh 864 [(4, .int (Int32.ofNat i)), (0, .ref 0), (1, .ref 1), (2, .ref 130), (3, .ref 166)] [] W J g L c u := by
  have hSR := SR0 n0
  refine b_aln (pc2 := 865) d_La_law_864 rfl rfl ?_
  refine b_aln (pc2 := 866) d_La_law_865 rfl rfl ?_
  refine b_il (pc2 := 868) d_La_law_866 rfl rfl ?_
  refine b_ic (pc2 := 869) (x := Int32.ofNat 1) d_La_law_868 rfl rfl ?_
  refine b_pure (pc2 := 870) d_La_law_869 rfl rfl rfl ?_
  rw [i_add]
  refine b_ia0 (pc2 := 871) (q := (i + 1)) d_La_law_870 rfl (i_in (show i + 1 < n0 by omega) (by omega)) (i_tn (by omega)) rc0 rfl ?_
  refine b_aln (pc2 := 872) d_La_law_871 rfl rfl ?_
  obtain ⟨mm, hmm, k, kg, v, b, W1, J1, K1, hk2, hkb, hcc, hmm2, hth, hrel, h0⟩ := sim_run (n0 := n0) (x := J 0 (i + 1)) h hT
  have hcls := hcc 12 J g L (by decide)
  rw [jn_same] at hcls
  have hj0 : (jn J1 J) 0 = J 0 := h0
  refine b_cs1 (pc2 := 875) (c2 := c + 1) (u2 := u + 6) (hcls) d_La_law_872 q_12_112 (Or.inl rfl) (Nat.le_of_ble_eq_true rfl) rfl rfl (Nat.le_of_ble_eq_true rfl) rfl rfl (by show c + 1 ≤ 601024; omega) (by show u + 6 ≤ 7293000; omega) rfl ?_
  refine b_is (pc2 := 877) (al2 := [(5, _), (4, _), (0, _), (1, _), (2, _), (3, _)]) d_La_law_875 (by decide) rfl rfl ?_
  refine b_aln (pc2 := 878) d_La_law_877 rfl rfl ?_
  refine b_aln (pc2 := 879) d_La_law_878 rfl rfl ?_
  refine b_il (pc2 := 881) d_La_law_879 rfl rfl ?_
  refine b_ic (pc2 := 882) (x := Int32.ofNat 1) d_La_law_881 rfl rfl ?_
  refine b_pure (pc2 := 883) d_La_law_882 rfl rfl rfl ?_
  rw [i_add]
  refine b_ia0 (pc2 := 884) (q := (i + 1)) d_La_law_883 rfl (i_in (show i + 1 < n0 by omega) (by omega)) (i_tn (by omega)) rc0 rfl ?_
  rw [hj0]
  refine b_cv1 (pc2 := 887) (c2 := c + 1) (u2 := u + 6) (hmm2 12 W1 J1 _ _ (by decide)) d_La_law_884 q_12_115 (Nat.le_of_ble_eq_true rfl) rfl rfl (sh_130 n0) (Nat.le_of_ble_eq_true rfl) rfl rfl (by show c + 1 ≤ 601024; omega) (by show u + 6 ≤ 7293000; omega) rfl ?_
  refine b_is (pc2 := 889) (al2 := [(6, _), (5, _), (4, _), (0, _), (1, _), (2, _), (3, _)]) d_La_law_887 (by decide) rfl rfl ?_
  refine b_aln (pc2 := 890) d_La_law_889 rfl rfl ?_
  refine b_cv1 (pc2 := 893) (c2 := c + 1) (u2 := u + 6) (mo_thrown (by decide)) d_La_law_890 q_12_85 (Nat.le_of_ble_eq_true rfl) rfl rfl (sh_130 n0) (Nat.le_of_ble_eq_true rfl) rfl rfl (by show c + 1 ≤ 601024; omega) (by show u + 6 ≤ 7293000; omega) rfl ?_
  rw [show (jn J1 K1) 130 0 = Int32.ofNat k from hth]
  refine b_il (pc2 := 895) d_La_law_893 rfl rfl ?_
  refine b_ifd (pc2 := 900) d_La_law_895 rfl rfl rfl rfl rfl (fun h895 => ?_) (fun h895 => ?_)
  rotate_left
  · exact absurd (rfl) h895
  refine b_il (pc2 := 902) d_La_law_900 rfl rfl ?_
  refine b_ifd (pc2 := 917) d_La_law_902 rfl rfl rfl rfl rfl (fun h902 => ?_) (fun h902 => ?_)
  · rw [z_eq (by omega)] at h902
    refine b_go (pc2 := 1278) d_La_law_917 rfl ?_
    refine b_nf (al := [(4, _), (0, _), (1, _), (2, _), (3, _)]) (ks := [4, 0, 1, 2, 3]) (sub_c rfl (sub_c rfl (sub_c rfl (sub_c rfl (sub_c rfl (sub_n)))))) rfl (by decide) ?_
    dsimp only
    exact hK (T + mm) _ _ _ W1 (jn J1 K1) _ (rel_jn hrel) (by omega) h0 (by omega) (by omega)
  · rw [z_eq (by omega)] at h902
    have hk0 : k = 0 := by omega
    subst hk0
    have hbv := hkb rfl
    subst hbv
    rw [if_pos rfl]
    refine b_aln (pc2 := 906) d_La_law_905 rfl rfl ?_
    refine b_ic (pc2 := 907) (x := Int32.ofNat 0) d_La_law_906 rfl rfl ?_
    refine b_la (pc2 := 908) (q := 0) d_La_law_907 (sh_166 n0) (i_in (i := 0) (by decide) (by decide)) rfl rfl ?_
    rw [u2_at]
    refine b_il (pc2 := 910) d_La_law_908 rfl rfl ?_
    refine b_pure (pc2 := 911) d_La_law_910 rfl rfl rfl ?_
    refine b_pure (pc2 := 912) d_La_law_911 rfl rfl rfl ?_
    refine b_ifd (pc2 := 917) d_La_law_912 rfl rfl rfl rfl rfl (fun h912 => ?_) (fun h912 => ?_)
    rotate_left
    · exact absurd (lg_self _) h912
    refine b_go (pc2 := 1278) d_La_law_917 rfl ?_
    refine b_nf (al := [(4, _), (0, _), (1, _), (2, _), (3, _)]) (ks := [4, 0, 1, 2, 3]) (sub_c rfl (sub_c rfl (sub_c rfl (sub_c rfl (sub_c rfl (sub_n)))))) rfl (by decide) ?_
    dsimp only
    exact hK (T + mm) _ _ _ W1 (jn J1 K1) _ (rel_jn hrel) (by omega) h0 (by omega) (by omega)
theorem lw_8 (hi : i + 6 ≤ n0) (hn : n0 ≤ 3075) (hc : c + 1 ≤ 601024) (hu : u + 6 ≤ 7293000) (h : rel T W J J) (hT : T < 70000000) (hK : lwK n0 T i c u J Qh) : bH 12 (S0 n0) R0 mt_La_law Qh 920 [(4, .int (Int32.ofNat i)), (0, .ref 0), (1, .ref 1), (2, .ref 130), (3, .ref 166)] [] W J g L c u := by
  have hSR := SR0 n0
  refine b_aln (pc2 := 921) d_La_law_920 rfl rfl ?_
  refine b_aln (pc2 := 922) d_La_law_921 rfl rfl ?_
  obtain ⟨k, kg, v, b, W1, J1, K1, hk2, hkb, hcc, hmm2, hth, hrel, h0⟩ := sim_outcome (n0 := n0) h
  have hcls := hcc 12 J g L (by decide)
  rw [jn_same] at hcls
  have hj0 : (jn J1 J) 0 = J 0 := h0
  refine b_cs1 (pc2 := 925) (c2 := c + 1) (u2 := u + 6) (hcls) d_La_law_922 q_12_116 (Or.inl rfl) (Nat.le_of_ble_eq_true rfl) rfl rfl (Nat.le_of_ble_eq_true rfl) rfl rfl (by show c + 1 ≤ 601024; omega) (by show u + 6 ≤ 7293000; omega) rfl ?_
  refine b_is (pc2 := 927) (al2 := [(5, _), (4, _), (0, _), (1, _), (2, _), (3, _)]) d_La_law_925 (by decide) rfl rfl ?_
  refine b_aln (pc2 := 928) d_La_law_927 rfl rfl ?_
  refine b_cv1 (pc2 := 931) (c2 := c + 1) (u2 := u + 6) (hmm2 12 W1 J1 _ _ (by decide)) d_La_law_928 q_12_119 (Nat.le_of_ble_eq_true rfl) rfl rfl (sh_130 n0) (Nat.le_of_ble_eq_true rfl) rfl rfl (by show c + 1 ≤ 601024; omega) (by show u + 6 ≤ 7293000; omega) rfl ?_
  refine b_is (pc2 := 933) (al2 := [(6, _), (5, _), (4, _), (0, _), (1, _), (2, _), (3, _)]) d_La_law_931 (by decide) rfl rfl ?_
  refine b_aln (pc2 := 934) d_La_law_933 rfl rfl ?_
  refine b_cv1 (pc2 := 937) (c2 := c + 1) (u2 := u + 6) (mo_thrown (by decide)) d_La_law_934 q_12_85 (Nat.le_of_ble_eq_true rfl) rfl rfl (sh_130 n0) (Nat.le_of_ble_eq_true rfl) rfl rfl (by show c + 1 ≤ 601024; omega) (by show u + 6 ≤ 7293000; omega) rfl ?_
  rw [show (jn J1 K1) 130 0 = Int32.ofNat k from hth]
  refine b_il (pc2 := 939) d_La_law_937 rfl rfl ?_
  refine b_ifd (pc2 := 944) d_La_law_939 rfl rfl rfl rfl rfl (fun h939 => ?_) (fun h939 => ?_)
  rotate_left
  · exact absurd (rfl) h939
  refine b_il (pc2 := 946) d_La_law_944 rfl rfl ?_
  refine b_ifd (pc2 := 961) d_La_law_946 rfl rfl rfl rfl rfl (fun h946 => ?_) (fun h946 => ?_)
  · rw [z_eq (by omega)] at h946
    refine b_go (pc2 := 1278) d_La_law_961 rfl ?_
    refine b_nf (al := [(4, _), (0, _), (1, _), (2, _), (3, _)]) (ks := [4, 0, 1, 2, 3]) (sub_c rfl (sub_c rfl (sub_c rfl (sub_c rfl (sub_c rfl (sub_n)))))) rfl (by decide) ?_
    dsimp only
    exact hK T _ _ _ W1 (jn J1 K1) _ (rel_jn hrel) (by omega) h0 (by omega) (by omega)
  · rw [z_eq (by omega)] at h946
    have hk0 : k = 0 := by omega
    subst hk0
    have hbv := hkb rfl
    subst hbv
    rw [if_pos rfl]
    refine b_aln (pc2 := 950) d_La_law_949 rfl rfl ?_
    refine b_ic (pc2 := 951) (x := Int32.ofNat 0) d_La_law_950 rfl rfl ?_
    refine b_la (pc2 := 952) (q := 0) d_La_law_951 (sh_166 n0) (i_in (i := 0) (by decide) (by decide)) rfl rfl ?_
    rw [u2_at]
    refine b_il (pc2 := 954) d_La_law_952 rfl rfl ?_
    refine b_pure (pc2 := 955) d_La_law_954 rfl rfl rfl ?_
    refine b_pure (pc2 := 956) d_La_law_955 rfl rfl rfl ?_
    refine b_ifd (pc2 := 961) d_La_law_956 rfl rfl rfl rfl rfl (fun h956 => ?_) (fun h956 => ?_)
    rotate_left
    · exact absurd (lg_self _) h956
    refine b_go (pc2 := 1278) d_La_law_961 rfl ?_
    refine b_nf (al := [(4, _), (0, _), (1, _), (2, _), (3, _)]) (ks := [4, 0, 1, 2, 3]) (sub_c rfl (sub_c rfl (sub_c rfl (sub_c rfl (sub_c rfl (sub_n)))))) rfl (by decide) ?_
    dsimp only
    exact hK T _ _ _ W1 (jn J1 K1) _ (rel_jn hrel) (by omega) h0 (by omega) (by omega)
theorem lw_9 (hi : i + 6 ≤ n0) (hn : n0 ≤ 3075) (hc : c + 1 ≤ 601024) (hu : u + 6 ≤ 7293000) (h : rel T W J J) (hT : T < 70000000) (hK : lwK n0 T i c u J Qh) : bH 12 (S0 n0) R0 mt_La_law Qh 964 [(4, .int (Int32.ofNat i)), (0, .ref 0), (1, .ref 1), (2, .ref 130), (3, .ref 166)] [] W J g L c u := by
  have hSR := SR0 n0
  refine b_aln (pc2 := 965) d_La_law_964 rfl rfl ?_
  obtain ⟨v, K1, hcc, hmm2, hrel⟩ := sim_error (n0 := n0) h
  have hcls := hcc 12 J g L (by decide)
  rw [jn_same] at hcls
  refine b_cv1 (pc2 := 968) (c2 := c) (u2 := u) (hcls) d_La_law_965 q_12_120 (Nat.le_of_ble_eq_true rfl) rfl rfl (sh_1 n0) (Nat.le_of_ble_eq_true rfl) rfl rfl (by show c ≤ 601024; omega) (by show u ≤ 7293000; omega) rfl ?_
  refine b_aln (pc2 := 969) d_La_law_968 rfl rfl ?_
  have hmm3 := hmm2 12 W J g L (by decide)
  rw [jn_same] at hmm3
  refine b_cv1 (pc2 := 972) (c2 := c) (u2 := u) (hmm3) d_La_law_969 q_12_123 (Nat.le_of_ble_eq_true rfl) rfl rfl (sh_130 n0) (Nat.le_of_ble_eq_true rfl) rfl rfl (by show c ≤ 601024; omega) (by show u ≤ 7293000; omega) rfl ?_
  refine b_ifd (pc2 := 1278) d_La_law_972 rfl rfl rfl rfl rfl (fun h972 => ?_) (fun h972 => ?_)
  rotate_left
  · exact absurd (rfl) h972
  refine b_nf (al := [(4, _), (0, _), (1, _), (2, _), (3, _)]) (ks := [4, 0, 1, 2, 3]) (sub_c rfl (sub_c rfl (sub_c rfl (sub_c rfl (sub_c rfl (sub_n)))))) rfl (by decide) ?_
  dsimp only
  exact hK T _ _ _ W (jn J K1) _ (rel_jn hrel) (by omega) rfl (by omega) (by omega)
theorem lw_10 (hi : i + 6 ≤ n0) (hn : n0 ≤ 3075) (hc : c + 1 ≤ 601024) (hu : u + 6 ≤ 7293000) (h : rel T W J J) (hT : T < 70000000) (hK : lwK n0 T i c u J Qh) : bH 12 (S0 n0) R0 mt_La_law Qh 977 [(4, .int (Int32.ofNat i)), (0, .ref 0), (1, .ref 1), (2, .ref 130), (3, .ref 166)] [] W J g L c u := by
  have hSR := SR0 n0
  refine b_aln (pc2 := 978) d_La_law_977 rfl rfl ?_
  refine b_aln (pc2 := 979) d_La_law_978 rfl rfl ?_
  refine b_il (pc2 := 981) d_La_law_979 rfl rfl ?_
  refine b_ic (pc2 := 982) (x := Int32.ofNat 1) d_La_law_981 rfl rfl ?_
  refine b_pure (pc2 := 983) d_La_law_982 rfl rfl rfl ?_
  rw [i_add]
  refine b_ia0 (pc2 := 984) (q := (i + 1)) d_La_law_983 rfl (i_in (show i + 1 < n0 by omega) (by omega)) (i_tn (by omega)) rc0 rfl ?_
  refine b_aln (pc2 := 985) d_La_law_984 rfl rfl ?_
  obtain ⟨k, kg, v, b, W1, J1, K1, hk2, hkb, hcc, hmm2, hth, hrel, h0⟩ := sim_data (n0 := n0) (k := J 0 (i + 1)) h
  have hcls := hcc 12 J g L (by decide)
  rw [jn_same] at hcls
  have hj0 : (jn J1 J) 0 = J 0 := h0
  refine b_cs1 (pc2 := 988) (c2 := c + 1) (u2 := u + 6) (hcls) d_La_law_985 q_12_124 (Or.inl rfl) (Nat.le_of_ble_eq_true rfl) rfl rfl (Nat.le_of_ble_eq_true rfl) rfl rfl (by show c + 1 ≤ 601024; omega) (by show u + 6 ≤ 7293000; omega) rfl ?_
  refine b_is (pc2 := 990) (al2 := [(5, _), (4, _), (0, _), (1, _), (2, _), (3, _)]) d_La_law_988 (by decide) rfl rfl ?_
  refine b_aln (pc2 := 991) d_La_law_990 rfl rfl ?_
  refine b_aln (pc2 := 992) d_La_law_991 rfl rfl ?_
  refine b_il (pc2 := 994) d_La_law_992 rfl rfl ?_
  refine b_ic (pc2 := 995) (x := Int32.ofNat 1) d_La_law_994 rfl rfl ?_
  refine b_pure (pc2 := 996) d_La_law_995 rfl rfl rfl ?_
  rw [i_add]
  refine b_ia0 (pc2 := 997) (q := (i + 1)) d_La_law_996 rfl (i_in (show i + 1 < n0 by omega) (by omega)) (i_tn (by omega)) rc0 rfl ?_
  rw [hj0]
  refine b_cv1 (pc2 := 1000) (c2 := c + 1) (u2 := u + 6) (hmm2 12 W1 J1 _ _ (by decide)) d_La_law_997 q_12_126 (Nat.le_of_ble_eq_true rfl) rfl rfl (sh_130 n0) (Nat.le_of_ble_eq_true rfl) rfl rfl (by show c + 1 ≤ 601024; omega) (by show u + 6 ≤ 7293000; omega) rfl ?_
  refine b_is (pc2 := 1002) (al2 := [(6, _), (5, _), (4, _), (0, _), (1, _), (2, _), (3, _)]) d_La_law_1000 (by decide) rfl rfl ?_
  refine b_aln (pc2 := 1003) d_La_law_1002 rfl rfl ?_
  refine b_cv1 (pc2 := 1006) (c2 := c + 1) (u2 := u + 6) (mo_thrown (by decide)) d_La_law_1003 q_12_85 (Nat.le_of_ble_eq_true rfl) rfl rfl (sh_130 n0) (Nat.le_of_ble_eq_true rfl) rfl rfl (by show c + 1 ≤ 601024; omega) (by show u + 6 ≤ 7293000; omega) rfl ?_
  rw [show (jn J1 K1) 130 0 = Int32.ofNat k from hth]
  refine b_il (pc2 := 1008) d_La_law_1006 rfl rfl ?_
  refine b_ifd (pc2 := 1013) d_La_law_1008 rfl rfl rfl rfl rfl (fun h1008 => ?_) (fun h1008 => ?_)
  rotate_left
  · exact absurd (rfl) h1008
  refine b_il (pc2 := 1015) d_La_law_1013 rfl rfl ?_
  refine b_ifd (pc2 := 1030) d_La_law_1015 rfl rfl rfl rfl rfl (fun h1015 => ?_) (fun h1015 => ?_)
  · rw [z_eq (by omega)] at h1015
    refine b_go (pc2 := 1278) d_La_law_1030 rfl ?_
    refine b_nf (al := [(4, _), (0, _), (1, _), (2, _), (3, _)]) (ks := [4, 0, 1, 2, 3]) (sub_c rfl (sub_c rfl (sub_c rfl (sub_c rfl (sub_c rfl (sub_n)))))) rfl (by decide) ?_
    dsimp only
    exact hK T _ _ _ W1 (jn J1 K1) _ (rel_jn hrel) (by omega) h0 (by omega) (by omega)
  · rw [z_eq (by omega)] at h1015
    have hk0 : k = 0 := by omega
    subst hk0
    have hbv := hkb rfl
    subst hbv
    rw [if_pos rfl]
    refine b_aln (pc2 := 1019) d_La_law_1018 rfl rfl ?_
    refine b_ic (pc2 := 1020) (x := Int32.ofNat 0) d_La_law_1019 rfl rfl ?_
    refine b_la (pc2 := 1021) (q := 0) d_La_law_1020 (sh_166 n0) (i_in (i := 0) (by decide) (by decide)) rfl rfl ?_
    rw [u2_at]
    refine b_il (pc2 := 1023) d_La_law_1021 rfl rfl ?_
    refine b_pure (pc2 := 1024) d_La_law_1023 rfl rfl rfl ?_
    refine b_pure (pc2 := 1025) d_La_law_1024 rfl rfl rfl ?_
    refine b_ifd (pc2 := 1030) d_La_law_1025 rfl rfl rfl rfl rfl (fun h1025 => ?_) (fun h1025 => ?_)
    rotate_left
    · exact absurd (lg_self _) h1025
    refine b_go (pc2 := 1278) d_La_law_1030 rfl ?_
    refine b_nf (al := [(4, _), (0, _), (1, _), (2, _), (3, _)]) (ks := [4, 0, 1, 2, 3]) (sub_c rfl (sub_c rfl (sub_c rfl (sub_c rfl (sub_c rfl (sub_n)))))) rfl (by decide) ?_
    dsimp only
    exact hK T _ _ _ W1 (jn J1 K1) _ (rel_jn hrel) (by omega) h0 (by omega) (by omega)
theorem lw_11 (hi : i + 6 ≤ n0) (hn : n0 ≤ 3075) (hc : c + 1 ≤ 601024) (hu : u + 6 ≤ 7293000) (h : rel T W J J) (hT : T < 70000000) (hK : lwK n0 T i c u J Qh) : bH 12 (S0 n0) R0 mt_La_law Qh 1033 [(4, .int (Int32.ofNat i)), (0, .ref 0), (1, .ref 1), (2, .ref 130), (3, .ref 166)] [] W J g L c u := by
  have hSR := SR0 n0
  refine b_aln (pc2 := 1034) d_La_law_1033 rfl rfl ?_
  refine b_aln (pc2 := 1035) d_La_law_1034 rfl rfl ?_
  refine b_il (pc2 := 1037) d_La_law_1035 rfl rfl ?_
  refine b_ic (pc2 := 1038) (x := Int32.ofNat 1) d_La_law_1037 rfl rfl ?_
  refine b_pure (pc2 := 1039) d_La_law_1038 rfl rfl rfl ?_
  rw [i_add]
  refine b_ia0 (pc2 := 1040) (q := (i + 1)) d_La_law_1039 rfl (i_in (show i + 1 < n0 by omega) (by omega)) (i_tn (by omega)) rc0 rfl ?_
  refine b_aln (pc2 := 1041) d_La_law_1040 rfl rfl ?_
  refine b_il (pc2 := 1043) d_La_law_1041 rfl rfl ?_
  refine b_ic (pc2 := 1044) (x := Int32.ofNat 2) d_La_law_1043 rfl rfl ?_
  refine b_pure (pc2 := 1045) d_La_law_1044 rfl rfl rfl ?_
  rw [i_add]
  refine b_ia0 (pc2 := 1046) (q := (i + 2)) d_La_law_1045 rfl (i_in (show i + 2 < n0 by omega) (by omega)) (i_tn (by omega)) rc0 rfl ?_
  refine b_aln (pc2 := 1047) d_La_law_1046 rfl rfl ?_
  obtain ⟨k, kg, v, b, W1, J1, K1, hk2, hkb, hcc, hmm2, hth, hrel, h0⟩ := sim_note (n0 := n0) (n := J 0 (i + 1)) (k := J 0 (i + 2)) h hT
  have hcls := hcc 12 J g L (by decide)
  rw [jn_same] at hcls
  have hj0 : (jn J1 J) 0 = J 0 := h0
  refine b_cs1 (pc2 := 1050) (c2 := c + 1) (u2 := u + 6) (hcls) d_La_law_1047 q_12_127 (Or.inl rfl) (Nat.le_of_ble_eq_true rfl) rfl rfl (Nat.le_of_ble_eq_true rfl) rfl rfl (by show c + 1 ≤ 601024; omega) (by show u + 6 ≤ 7293000; omega) rfl ?_
  refine b_is (pc2 := 1052) (al2 := [(5, _), (4, _), (0, _), (1, _), (2, _), (3, _)]) d_La_law_1050 (by decide) rfl rfl ?_
  refine b_aln (pc2 := 1053) d_La_law_1052 rfl rfl ?_
  refine b_aln (pc2 := 1054) d_La_law_1053 rfl rfl ?_
  refine b_il (pc2 := 1056) d_La_law_1054 rfl rfl ?_
  refine b_ic (pc2 := 1057) (x := Int32.ofNat 1) d_La_law_1056 rfl rfl ?_
  refine b_pure (pc2 := 1058) d_La_law_1057 rfl rfl rfl ?_
  rw [i_add]
  refine b_ia0 (pc2 := 1059) (q := (i + 1)) d_La_law_1058 rfl (i_in (show i + 1 < n0 by omega) (by omega)) (i_tn (by omega)) rc0 rfl ?_
  rw [hj0]
  refine b_aln (pc2 := 1060) d_La_law_1059 rfl rfl ?_
  refine b_il (pc2 := 1062) d_La_law_1060 rfl rfl ?_
  refine b_ic (pc2 := 1063) (x := Int32.ofNat 2) d_La_law_1062 rfl rfl ?_
  refine b_pure (pc2 := 1064) d_La_law_1063 rfl rfl rfl ?_
  rw [i_add]
  refine b_ia0 (pc2 := 1065) (q := (i + 2)) d_La_law_1064 rfl (i_in (show i + 2 < n0 by omega) (by omega)) (i_tn (by omega)) rc0 rfl ?_
  rw [hj0]
  refine b_cv1 (pc2 := 1068) (c2 := c + 1) (u2 := u + 6) (hmm2 12 W1 J1 _ _ (by decide)) d_La_law_1065 q_12_130 (Nat.le_of_ble_eq_true rfl) rfl rfl (sh_130 n0) (Nat.le_of_ble_eq_true rfl) rfl rfl (by show c + 1 ≤ 601024; omega) (by show u + 6 ≤ 7293000; omega) rfl ?_
  refine b_is (pc2 := 1070) (al2 := [(6, _), (5, _), (4, _), (0, _), (1, _), (2, _), (3, _)]) d_La_law_1068 (by decide) rfl rfl ?_
  refine b_aln (pc2 := 1071) d_La_law_1070 rfl rfl ?_
  refine b_cv1 (pc2 := 1074) (c2 := c + 1) (u2 := u + 6) (mo_thrown (by decide)) d_La_law_1071 q_12_85 (Nat.le_of_ble_eq_true rfl) rfl rfl (sh_130 n0) (Nat.le_of_ble_eq_true rfl) rfl rfl (by show c + 1 ≤ 601024; omega) (by show u + 6 ≤ 7293000; omega) rfl ?_
  rw [show (jn J1 K1) 130 0 = Int32.ofNat k from hth]
  refine b_il (pc2 := 1076) d_La_law_1074 rfl rfl ?_
  refine b_ifd (pc2 := 1081) d_La_law_1076 rfl rfl rfl rfl rfl (fun h1076 => ?_) (fun h1076 => ?_)
  rotate_left
  · exact absurd (rfl) h1076
  refine b_il (pc2 := 1083) d_La_law_1081 rfl rfl ?_
  refine b_ifd (pc2 := 1098) d_La_law_1083 rfl rfl rfl rfl rfl (fun h1083 => ?_) (fun h1083 => ?_)
  · rw [z_eq (by omega)] at h1083
    refine b_go (pc2 := 1278) d_La_law_1098 rfl ?_
    refine b_nf (al := [(4, _), (0, _), (1, _), (2, _), (3, _)]) (ks := [4, 0, 1, 2, 3]) (sub_c rfl (sub_c rfl (sub_c rfl (sub_c rfl (sub_c rfl (sub_n)))))) rfl (by decide) ?_
    dsimp only
    exact hK T _ _ _ W1 (jn J1 K1) _ (rel_jn hrel) (by omega) h0 (by omega) (by omega)
  · rw [z_eq (by omega)] at h1083
    have hk0 : k = 0 := by omega
    subst hk0
    have hbv := hkb rfl
    subst hbv
    rw [if_pos rfl]
    refine b_aln (pc2 := 1087) d_La_law_1086 rfl rfl ?_
    refine b_ic (pc2 := 1088) (x := Int32.ofNat 0) d_La_law_1087 rfl rfl ?_
    refine b_la (pc2 := 1089) (q := 0) d_La_law_1088 (sh_166 n0) (i_in (i := 0) (by decide) (by decide)) rfl rfl ?_
    rw [u2_at]
    refine b_il (pc2 := 1091) d_La_law_1089 rfl rfl ?_
    refine b_pure (pc2 := 1092) d_La_law_1091 rfl rfl rfl ?_
    refine b_pure (pc2 := 1093) d_La_law_1092 rfl rfl rfl ?_
    refine b_ifd (pc2 := 1098) d_La_law_1093 rfl rfl rfl rfl rfl (fun h1093 => ?_) (fun h1093 => ?_)
    rotate_left
    · exact absurd (lg_self _) h1093
    refine b_go (pc2 := 1278) d_La_law_1098 rfl ?_
    refine b_nf (al := [(4, _), (0, _), (1, _), (2, _), (3, _)]) (ks := [4, 0, 1, 2, 3]) (sub_c rfl (sub_c rfl (sub_c rfl (sub_c rfl (sub_c rfl (sub_n)))))) rfl (by decide) ?_
    dsimp only
    exact hK T _ _ _ W1 (jn J1 K1) _ (rel_jn hrel) (by omega) h0 (by omega) (by omega)
theorem lw_12 (hi : i + 6 ≤ n0) (hn : n0 ≤ 3075) (hc : c + 1 ≤ 601024) (hu : u + 6 ≤ 7293000) (h : rel T W J J) (hT : T < 70000000) (hK : lwK n0 T i c u J Qh) : bH 12 (S0 n0) R0 mt_La_law Qh 1101 [(4, .int (Int32.ofNat i)), (0, .ref 0), (1, .ref 1), (2, .ref 130), (3, .ref 166)] [] W J g L c u := by
  have hSR := SR0 n0
  refine b_aln (pc2 := 1102) d_La_law_1101 rfl rfl ?_
  refine b_aln (pc2 := 1103) d_La_law_1102 rfl rfl ?_
  refine b_il (pc2 := 1105) d_La_law_1103 rfl rfl ?_
  refine b_ic (pc2 := 1106) (x := Int32.ofNat 1) d_La_law_1105 rfl rfl ?_
  refine b_pure (pc2 := 1107) d_La_law_1106 rfl rfl rfl ?_
  rw [i_add]
  refine b_ia0 (pc2 := 1108) (q := (i + 1)) d_La_law_1107 rfl (i_in (show i + 1 < n0 by omega) (by omega)) (i_tn (by omega)) rc0 rfl ?_
  refine b_aln (pc2 := 1109) d_La_law_1108 rfl rfl ?_
  refine b_il (pc2 := 1111) d_La_law_1109 rfl rfl ?_
  refine b_ic (pc2 := 1112) (x := Int32.ofNat 2) d_La_law_1111 rfl rfl ?_
  refine b_pure (pc2 := 1113) d_La_law_1112 rfl rfl rfl ?_
  rw [i_add]
  refine b_ia0 (pc2 := 1114) (q := (i + 2)) d_La_law_1113 rfl (i_in (show i + 2 < n0 by omega) (by omega)) (i_tn (by omega)) rc0 rfl ?_
  refine b_aln (pc2 := 1115) d_La_law_1114 rfl rfl ?_
  obtain ⟨k, kg, v, b, W1, J1, K1, hk2, hkb, hcc, hmm2, hth, hrel, h0⟩ := sim_value (n0 := n0) (hh := J 0 (i + 1)) (k := J 0 (i + 2)) h
  have hcls := hcc 12 J g L (by decide)
  rw [jn_same] at hcls
  have hj0 : (jn J1 J) 0 = J 0 := h0
  refine b_cs1 (pc2 := 1118) (c2 := c + 1) (u2 := u + 6) (hcls) d_La_law_1115 q_12_131 (Or.inl rfl) (Nat.le_of_ble_eq_true rfl) rfl rfl (Nat.le_of_ble_eq_true rfl) rfl rfl (by show c + 1 ≤ 601024; omega) (by show u + 6 ≤ 7293000; omega) rfl ?_
  refine b_is (pc2 := 1120) (al2 := [(5, _), (4, _), (0, _), (1, _), (2, _), (3, _)]) d_La_law_1118 (by decide) rfl rfl ?_
  refine b_aln (pc2 := 1121) d_La_law_1120 rfl rfl ?_
  refine b_aln (pc2 := 1122) d_La_law_1121 rfl rfl ?_
  refine b_il (pc2 := 1124) d_La_law_1122 rfl rfl ?_
  refine b_ic (pc2 := 1125) (x := Int32.ofNat 1) d_La_law_1124 rfl rfl ?_
  refine b_pure (pc2 := 1126) d_La_law_1125 rfl rfl rfl ?_
  rw [i_add]
  refine b_ia0 (pc2 := 1127) (q := (i + 1)) d_La_law_1126 rfl (i_in (show i + 1 < n0 by omega) (by omega)) (i_tn (by omega)) rc0 rfl ?_
  rw [hj0]
  refine b_aln (pc2 := 1128) d_La_law_1127 rfl rfl ?_
  refine b_il (pc2 := 1130) d_La_law_1128 rfl rfl ?_
  refine b_ic (pc2 := 1131) (x := Int32.ofNat 2) d_La_law_1130 rfl rfl ?_
  refine b_pure (pc2 := 1132) d_La_law_1131 rfl rfl rfl ?_
  rw [i_add]
  refine b_ia0 (pc2 := 1133) (q := (i + 2)) d_La_law_1132 rfl (i_in (show i + 2 < n0 by omega) (by omega)) (i_tn (by omega)) rc0 rfl ?_
  rw [hj0]
  refine b_cv1 (pc2 := 1136) (c2 := c + 1) (u2 := u + 6) (hmm2 12 W1 J1 _ _ (by decide)) d_La_law_1133 q_12_133 (Nat.le_of_ble_eq_true rfl) rfl rfl (sh_130 n0) (Nat.le_of_ble_eq_true rfl) rfl rfl (by show c + 1 ≤ 601024; omega) (by show u + 6 ≤ 7293000; omega) rfl ?_
  refine b_is (pc2 := 1138) (al2 := [(6, _), (5, _), (4, _), (0, _), (1, _), (2, _), (3, _)]) d_La_law_1136 (by decide) rfl rfl ?_
  refine b_aln (pc2 := 1139) d_La_law_1138 rfl rfl ?_
  refine b_cv1 (pc2 := 1142) (c2 := c + 1) (u2 := u + 6) (mo_thrown (by decide)) d_La_law_1139 q_12_85 (Nat.le_of_ble_eq_true rfl) rfl rfl (sh_130 n0) (Nat.le_of_ble_eq_true rfl) rfl rfl (by show c + 1 ≤ 601024; omega) (by show u + 6 ≤ 7293000; omega) rfl ?_
  rw [show (jn J1 K1) 130 0 = Int32.ofNat k from hth]
  refine b_il (pc2 := 1144) d_La_law_1142 rfl rfl ?_
  refine b_ifd (pc2 := 1149) d_La_law_1144 rfl rfl rfl rfl rfl (fun h1144 => ?_) (fun h1144 => ?_)
  rotate_left
  · exact absurd (rfl) h1144
  refine b_il (pc2 := 1151) d_La_law_1149 rfl rfl ?_
  refine b_ifd (pc2 := 1166) d_La_law_1151 rfl rfl rfl rfl rfl (fun h1151 => ?_) (fun h1151 => ?_)
  · rw [z_eq (by omega)] at h1151
    refine b_go (pc2 := 1278) d_La_law_1166 rfl ?_
    refine b_nf (al := [(4, _), (0, _), (1, _), (2, _), (3, _)]) (ks := [4, 0, 1, 2, 3]) (sub_c rfl (sub_c rfl (sub_c rfl (sub_c rfl (sub_c rfl (sub_n)))))) rfl (by decide) ?_
    dsimp only
    exact hK T _ _ _ W1 (jn J1 K1) _ (rel_jn hrel) (by omega) h0 (by omega) (by omega)
  · rw [z_eq (by omega)] at h1151
    have hk0 : k = 0 := by omega
    subst hk0
    have hbv := hkb rfl
    subst hbv
    rw [if_pos rfl]
    refine b_aln (pc2 := 1155) d_La_law_1154 rfl rfl ?_
    refine b_ic (pc2 := 1156) (x := Int32.ofNat 0) d_La_law_1155 rfl rfl ?_
    refine b_la (pc2 := 1157) (q := 0) d_La_law_1156 (sh_166 n0) (i_in (i := 0) (by decide) (by decide)) rfl rfl ?_
    rw [u2_at]
    refine b_il (pc2 := 1159) d_La_law_1157 rfl rfl ?_
    refine b_pure (pc2 := 1160) d_La_law_1159 rfl rfl rfl ?_
    refine b_pure (pc2 := 1161) d_La_law_1160 rfl rfl rfl ?_
    refine b_ifd (pc2 := 1166) d_La_law_1161 rfl rfl rfl rfl rfl (fun h1161 => ?_) (fun h1161 => ?_)
    rotate_left
    · exact absurd (lg_self _) h1161
    refine b_go (pc2 := 1278) d_La_law_1166 rfl ?_
    refine b_nf (al := [(4, _), (0, _), (1, _), (2, _), (3, _)]) (ks := [4, 0, 1, 2, 3]) (sub_c rfl (sub_c rfl (sub_c rfl (sub_c rfl (sub_c rfl (sub_n)))))) rfl (by decide) ?_
    dsimp only
    exact hK T _ _ _ W1 (jn J1 K1) _ (rel_jn hrel) (by omega) h0 (by omega) (by omega)
theorem lw_13 (hi : i + 6 ≤ n0) (hn : n0 ≤ 3075) (hc : c + 1 ≤ 601024) (hu : u + 6 ≤ 7293000) (h : rel T W J J) (hT : T < 70000000) (hK : lwK n0 T i c u J Qh) : bH 12 (S0 n0) R0 mt_La_law Qh 1169 [(4, .int (Int32.ofNat i)), (0, .ref 0), (1, .ref 1), (2, .ref 130), (3, .ref 166)] [] W J g L c u := by
  have hSR := SR0 n0
  refine b_aln (pc2 := 1170) d_La_law_1169 rfl rfl ?_
  refine b_aln (pc2 := 1171) d_La_law_1170 rfl rfl ?_
  refine b_il (pc2 := 1173) d_La_law_1171 rfl rfl ?_
  refine b_ic (pc2 := 1174) (x := Int32.ofNat 1) d_La_law_1173 rfl rfl ?_
  refine b_pure (pc2 := 1175) d_La_law_1174 rfl rfl rfl ?_
  rw [i_add]
  refine b_ia0 (pc2 := 1176) (q := (i + 1)) d_La_law_1175 rfl (i_in (show i + 1 < n0 by omega) (by omega)) (i_tn (by omega)) rc0 rfl ?_
  refine b_ifd (pc2 := 1183) d_La_law_1176 rfl rfl rfl rfl rfl (fun h1176 => ?_) (fun h1176 => ?_)
  · refine b_ic (pc2 := 1184) (x := Int32.ofNat 0) d_La_law_1183 rfl rfl ?_
    refine b_aln (pc2 := 1185) d_La_law_1184 rfl rfl ?_
    refine b_il (pc2 := 1187) d_La_law_1185 rfl rfl ?_
    refine b_ic (pc2 := 1188) (x := Int32.ofNat 2) d_La_law_1187 rfl rfl ?_
    refine b_pure (pc2 := 1189) d_La_law_1188 rfl rfl rfl ?_
    rw [i_add]
    refine b_ia0 (pc2 := 1190) (q := (i + 2)) d_La_law_1189 rfl (i_in (show i + 2 < n0 by omega) (by omega)) (i_tn (by omega)) rc0 rfl ?_
    refine b_aln (pc2 := 1191) d_La_law_1190 rfl rfl ?_
    obtain ⟨k, kg, v, b, W1, J1, K1, hk2, hkb, hcc, hmm2, hth, hrel, h0⟩ := sim_air (n0 := n0) (b := 0) (k := J 0 (i + 2)) (by decide) h
    have hcls := hcc 12 J g L (by decide)
    rw [jn_same] at hcls
    have hj0 : (jn J1 J) 0 = J 0 := h0
    refine b_cs1 (pc2 := 1194) (c2 := c + 1) (u2 := u + 6) (hcls) d_La_law_1191 q_12_134 (Or.inl rfl) (Nat.le_of_ble_eq_true rfl) rfl rfl (Nat.le_of_ble_eq_true rfl) rfl rfl (by show c + 1 ≤ 601024; omega) (by show u + 6 ≤ 7293000; omega) rfl ?_
    refine b_is (pc2 := 1196) (al2 := [(5, _), (4, _), (0, _), (1, _), (2, _), (3, _)]) d_La_law_1194 (by decide) rfl rfl ?_
    refine b_aln (pc2 := 1197) d_La_law_1196 rfl rfl ?_
    refine b_aln (pc2 := 1198) d_La_law_1197 rfl rfl ?_
    refine b_il (pc2 := 1200) d_La_law_1198 rfl rfl ?_
    refine b_ic (pc2 := 1201) (x := Int32.ofNat 1) d_La_law_1200 rfl rfl ?_
    refine b_pure (pc2 := 1202) d_La_law_1201 rfl rfl rfl ?_
    rw [i_add]
    refine b_ia0 (pc2 := 1203) (q := (i + 1)) d_La_law_1202 rfl (i_in (show i + 1 < n0 by omega) (by omega)) (i_tn (by omega)) rc0 rfl ?_
    rw [hj0]
    refine b_ifd (pc2 := 1210) d_La_law_1203 rfl rfl rfl rfl rfl (fun h1203 => ?_) (fun h1203 => ?_)
    rotate_left
    · exact absurd (h1176) h1203
    refine b_ic (pc2 := 1211) (x := Int32.ofNat 0) d_La_law_1210 rfl rfl ?_
    refine b_aln (pc2 := 1212) d_La_law_1211 rfl rfl ?_
    refine b_il (pc2 := 1214) d_La_law_1212 rfl rfl ?_
    refine b_ic (pc2 := 1215) (x := Int32.ofNat 2) d_La_law_1214 rfl rfl ?_
    refine b_pure (pc2 := 1216) d_La_law_1215 rfl rfl rfl ?_
    rw [i_add]
    refine b_ia0 (pc2 := 1217) (q := (i + 2)) d_La_law_1216 rfl (i_in (show i + 2 < n0 by omega) (by omega)) (i_tn (by omega)) rc0 rfl ?_
    rw [hj0]
    refine b_cv1 (pc2 := 1220) (c2 := c + 1) (u2 := u + 6) (hmm2 12 W1 J1 _ _ (by decide)) d_La_law_1217 q_12_137 (Nat.le_of_ble_eq_true rfl) rfl rfl (sh_130 n0) (Nat.le_of_ble_eq_true rfl) rfl rfl (by show c + 1 ≤ 601024; omega) (by show u + 6 ≤ 7293000; omega) rfl ?_
    refine b_is (pc2 := 1222) (al2 := [(6, _), (5, _), (4, _), (0, _), (1, _), (2, _), (3, _)]) d_La_law_1220 (by decide) rfl rfl ?_
    refine b_aln (pc2 := 1223) d_La_law_1222 rfl rfl ?_
    refine b_cv1 (pc2 := 1226) (c2 := c + 1) (u2 := u + 6) (mo_thrown (by decide)) d_La_law_1223 q_12_85 (Nat.le_of_ble_eq_true rfl) rfl rfl (sh_130 n0) (Nat.le_of_ble_eq_true rfl) rfl rfl (by show c + 1 ≤ 601024; omega) (by show u + 6 ≤ 7293000; omega) rfl ?_
    rw [show (jn J1 K1) 130 0 = Int32.ofNat k from hth]
    refine b_il (pc2 := 1228) d_La_law_1226 rfl rfl ?_
    refine b_ifd (pc2 := 1233) d_La_law_1228 rfl rfl rfl rfl rfl (fun h1228 => ?_) (fun h1228 => ?_)
    rotate_left
    · exact absurd (rfl) h1228
    refine b_il (pc2 := 1235) d_La_law_1233 rfl rfl ?_
    refine b_ifd (pc2 := 1250) d_La_law_1235 rfl rfl rfl rfl rfl (fun h1235 => ?_) (fun h1235 => ?_)
    · rw [z_eq (by omega)] at h1235
      refine b_go (pc2 := 1278) d_La_law_1250 rfl ?_
      refine b_nf (al := [(4, _), (0, _), (1, _), (2, _), (3, _)]) (ks := [4, 0, 1, 2, 3]) (sub_c rfl (sub_c rfl (sub_c rfl (sub_c rfl (sub_c rfl (sub_n)))))) rfl (by decide) ?_
      dsimp only
      exact hK T _ _ _ W1 (jn J1 K1) _ (rel_jn hrel) (by omega) h0 (by omega) (by omega)
    · rw [z_eq (by omega)] at h1235
      have hk0 : k = 0 := by omega
      subst hk0
      have hbv := hkb rfl
      subst hbv
      rw [if_pos rfl]
      refine b_aln (pc2 := 1239) d_La_law_1238 rfl rfl ?_
      refine b_ic (pc2 := 1240) (x := Int32.ofNat 0) d_La_law_1239 rfl rfl ?_
      refine b_la (pc2 := 1241) (q := 0) d_La_law_1240 (sh_166 n0) (i_in (i := 0) (by decide) (by decide)) rfl rfl ?_
      rw [u2_at]
      refine b_il (pc2 := 1243) d_La_law_1241 rfl rfl ?_
      refine b_pure (pc2 := 1244) d_La_law_1243 rfl rfl rfl ?_
      refine b_pure (pc2 := 1245) d_La_law_1244 rfl rfl rfl ?_
      refine b_ifd (pc2 := 1250) d_La_law_1245 rfl rfl rfl rfl rfl (fun h1245 => ?_) (fun h1245 => ?_)
      rotate_left
      · exact absurd (lg_self _) h1245
      refine b_go (pc2 := 1278) d_La_law_1250 rfl ?_
      refine b_nf (al := [(4, _), (0, _), (1, _), (2, _), (3, _)]) (ks := [4, 0, 1, 2, 3]) (sub_c rfl (sub_c rfl (sub_c rfl (sub_c rfl (sub_c rfl (sub_n)))))) rfl (by decide) ?_
      dsimp only
      exact hK T _ _ _ W1 (jn J1 K1) _ (rel_jn hrel) (by omega) h0 (by omega) (by omega)
  · refine b_ic (pc2 := 1180) (x := Int32.ofNat 1) d_La_law_1179 rfl rfl ?_
    refine b_go (pc2 := 1184) d_La_law_1180 rfl ?_
    refine b_aln (pc2 := 1185) d_La_law_1184 rfl rfl ?_
    refine b_il (pc2 := 1187) d_La_law_1185 rfl rfl ?_
    refine b_ic (pc2 := 1188) (x := Int32.ofNat 2) d_La_law_1187 rfl rfl ?_
    refine b_pure (pc2 := 1189) d_La_law_1188 rfl rfl rfl ?_
    rw [i_add]
    refine b_ia0 (pc2 := 1190) (q := (i + 2)) d_La_law_1189 rfl (i_in (show i + 2 < n0 by omega) (by omega)) (i_tn (by omega)) rc0 rfl ?_
    refine b_aln (pc2 := 1191) d_La_law_1190 rfl rfl ?_
    obtain ⟨k, kg, v, b, W1, J1, K1, hk2, hkb, hcc, hmm2, hth, hrel, h0⟩ := sim_air (n0 := n0) (b := 1) (k := J 0 (i + 2)) (by decide) h
    have hcls := hcc 12 J g L (by decide)
    rw [jn_same] at hcls
    have hj0 : (jn J1 J) 0 = J 0 := h0
    refine b_cs1 (pc2 := 1194) (c2 := c + 1) (u2 := u + 6) (hcls) d_La_law_1191 q_12_134 (Or.inl rfl) (Nat.le_of_ble_eq_true rfl) rfl rfl (Nat.le_of_ble_eq_true rfl) rfl rfl (by show c + 1 ≤ 601024; omega) (by show u + 6 ≤ 7293000; omega) rfl ?_
    refine b_is (pc2 := 1196) (al2 := [(5, _), (4, _), (0, _), (1, _), (2, _), (3, _)]) d_La_law_1194 (by decide) rfl rfl ?_
    refine b_aln (pc2 := 1197) d_La_law_1196 rfl rfl ?_
    refine b_aln (pc2 := 1198) d_La_law_1197 rfl rfl ?_
    refine b_il (pc2 := 1200) d_La_law_1198 rfl rfl ?_
    refine b_ic (pc2 := 1201) (x := Int32.ofNat 1) d_La_law_1200 rfl rfl ?_
    refine b_pure (pc2 := 1202) d_La_law_1201 rfl rfl rfl ?_
    rw [i_add]
    refine b_ia0 (pc2 := 1203) (q := (i + 1)) d_La_law_1202 rfl (i_in (show i + 1 < n0 by omega) (by omega)) (i_tn (by omega)) rc0 rfl ?_
    rw [hj0]
    refine b_ifd (pc2 := 1210) d_La_law_1203 rfl rfl rfl rfl rfl (fun h1203 => ?_) (fun h1203 => ?_)
    · exact absurd h1203 (h1176)
    refine b_ic (pc2 := 1207) (x := Int32.ofNat 1) d_La_law_1206 rfl rfl ?_
    refine b_go (pc2 := 1211) d_La_law_1207 rfl ?_
    refine b_aln (pc2 := 1212) d_La_law_1211 rfl rfl ?_
    refine b_il (pc2 := 1214) d_La_law_1212 rfl rfl ?_
    refine b_ic (pc2 := 1215) (x := Int32.ofNat 2) d_La_law_1214 rfl rfl ?_
    refine b_pure (pc2 := 1216) d_La_law_1215 rfl rfl rfl ?_
    rw [i_add]
    refine b_ia0 (pc2 := 1217) (q := (i + 2)) d_La_law_1216 rfl (i_in (show i + 2 < n0 by omega) (by omega)) (i_tn (by omega)) rc0 rfl ?_
    rw [hj0]
    refine b_cv1 (pc2 := 1220) (c2 := c + 1) (u2 := u + 6) (hmm2 12 W1 J1 _ _ (by decide)) d_La_law_1217 q_12_137 (Nat.le_of_ble_eq_true rfl) rfl rfl (sh_130 n0) (Nat.le_of_ble_eq_true rfl) rfl rfl (by show c + 1 ≤ 601024; omega) (by show u + 6 ≤ 7293000; omega) rfl ?_
    refine b_is (pc2 := 1222) (al2 := [(6, _), (5, _), (4, _), (0, _), (1, _), (2, _), (3, _)]) d_La_law_1220 (by decide) rfl rfl ?_
    refine b_aln (pc2 := 1223) d_La_law_1222 rfl rfl ?_
    refine b_cv1 (pc2 := 1226) (c2 := c + 1) (u2 := u + 6) (mo_thrown (by decide)) d_La_law_1223 q_12_85 (Nat.le_of_ble_eq_true rfl) rfl rfl (sh_130 n0) (Nat.le_of_ble_eq_true rfl) rfl rfl (by show c + 1 ≤ 601024; omega) (by show u + 6 ≤ 7293000; omega) rfl ?_
    rw [show (jn J1 K1) 130 0 = Int32.ofNat k from hth]
    refine b_il (pc2 := 1228) d_La_law_1226 rfl rfl ?_
    refine b_ifd (pc2 := 1233) d_La_law_1228 rfl rfl rfl rfl rfl (fun h1228 => ?_) (fun h1228 => ?_)
    rotate_left
    · exact absurd (rfl) h1228
    refine b_il (pc2 := 1235) d_La_law_1233 rfl rfl ?_
    refine b_ifd (pc2 := 1250) d_La_law_1235 rfl rfl rfl rfl rfl (fun h1235 => ?_) (fun h1235 => ?_)
    · rw [z_eq (by omega)] at h1235
      refine b_go (pc2 := 1278) d_La_law_1250 rfl ?_
      refine b_nf (al := [(4, _), (0, _), (1, _), (2, _), (3, _)]) (ks := [4, 0, 1, 2, 3]) (sub_c rfl (sub_c rfl (sub_c rfl (sub_c rfl (sub_c rfl (sub_n)))))) rfl (by decide) ?_
      dsimp only
      exact hK T _ _ _ W1 (jn J1 K1) _ (rel_jn hrel) (by omega) h0 (by omega) (by omega)
    · rw [z_eq (by omega)] at h1235
      have hk0 : k = 0 := by omega
      subst hk0
      have hbv := hkb rfl
      subst hbv
      rw [if_pos rfl]
      refine b_aln (pc2 := 1239) d_La_law_1238 rfl rfl ?_
      refine b_ic (pc2 := 1240) (x := Int32.ofNat 0) d_La_law_1239 rfl rfl ?_
      refine b_la (pc2 := 1241) (q := 0) d_La_law_1240 (sh_166 n0) (i_in (i := 0) (by decide) (by decide)) rfl rfl ?_
      rw [u2_at]
      refine b_il (pc2 := 1243) d_La_law_1241 rfl rfl ?_
      refine b_pure (pc2 := 1244) d_La_law_1243 rfl rfl rfl ?_
      refine b_pure (pc2 := 1245) d_La_law_1244 rfl rfl rfl ?_
      refine b_ifd (pc2 := 1250) d_La_law_1245 rfl rfl rfl rfl rfl (fun h1245 => ?_) (fun h1245 => ?_)
      rotate_left
      · exact absurd (lg_self _) h1245
      refine b_go (pc2 := 1278) d_La_law_1250 rfl ?_
      refine b_nf (al := [(4, _), (0, _), (1, _), (2, _), (3, _)]) (ks := [4, 0, 1, 2, 3]) (sub_c rfl (sub_c rfl (sub_c rfl (sub_c rfl (sub_c rfl (sub_n)))))) rfl (by decide) ?_
      dsimp only
      exact hK T _ _ _ W1 (jn J1 K1) _ (rel_jn hrel) (by omega) h0 (by omega) (by omega)
theorem lw_14 (hi : i + 6 ≤ n0) (hn : n0 ≤ 3075) (hc : c + 1 ≤ 601024) (hu : u + 6 ≤ 7293000) (h : rel T W J J) (hT : T < 70000000) (hK : lwK n0 T i c u J Qh) : bH 12 (S0 n0) R0 mt_La_law Qh 1253 [(4, .int (Int32.ofNat i)), (0, .ref 0), (1, .ref 1), (2, .ref 130), (3, .ref 166)] [] W J g L c u := by
  have hSR := SR0 n0
  refine b_aln (pc2 := 1254) d_La_law_1253 rfl rfl ?_
  refine b_aln (pc2 := 1255) d_La_law_1254 rfl rfl ?_
  refine b_il (pc2 := 1257) d_La_law_1255 rfl rfl ?_
  refine b_ic (pc2 := 1258) (x := Int32.ofNat 1) d_La_law_1257 rfl rfl ?_
  refine b_pure (pc2 := 1259) d_La_law_1258 rfl rfl rfl ?_
  rw [i_add]
  refine b_ia0 (pc2 := 1260) (q := (i + 1)) d_La_law_1259 rfl (i_in (show i + 1 < n0 by omega) (by omega)) (i_tn (by omega)) rc0 rfl ?_
  obtain ⟨v, K1, hcc, hmm2, hrel⟩ := sim_look (n0 := n0) (k := J 0 (i + 1)) h
  have hcls := hcc 12 J g L (by decide)
  rw [jn_same] at hcls
  refine b_cv1 (pc2 := 1263) (c2 := c) (u2 := u) (hcls) d_La_law_1260 q_12_138 (Nat.le_of_ble_eq_true rfl) rfl rfl (sh_1 n0) (Nat.le_of_ble_eq_true rfl) rfl rfl (by show c ≤ 601024; omega) (by show u ≤ 7293000; omega) rfl ?_
  refine b_aln (pc2 := 1264) d_La_law_1263 rfl rfl ?_
  refine b_aln (pc2 := 1265) d_La_law_1264 rfl rfl ?_
  refine b_il (pc2 := 1267) d_La_law_1265 rfl rfl ?_
  refine b_ic (pc2 := 1268) (x := Int32.ofNat 1) d_La_law_1267 rfl rfl ?_
  refine b_pure (pc2 := 1269) d_La_law_1268 rfl rfl rfl ?_
  rw [i_add]
  refine b_ia0 (pc2 := 1270) (q := (i + 1)) d_La_law_1269 rfl (i_in (show i + 1 < n0 by omega) (by omega)) (i_tn (by omega)) rc0 rfl ?_
  have hmm3 := hmm2 12 W J g L (by decide)
  rw [jn_same] at hmm3
  refine b_cv1 (pc2 := 1273) (c2 := c) (u2 := u) (hmm3) d_La_law_1270 q_12_141 (Nat.le_of_ble_eq_true rfl) rfl rfl (sh_130 n0) (Nat.le_of_ble_eq_true rfl) rfl rfl (by show c ≤ 601024; omega) (by show u ≤ 7293000; omega) rfl ?_
  refine b_ifd (pc2 := 1278) d_La_law_1273 rfl rfl rfl rfl rfl (fun h1273 => ?_) (fun h1273 => ?_)
  rotate_left
  · exact absurd (rfl) h1273
  refine b_nf (al := [(4, _), (0, _), (1, _), (2, _), (3, _)]) (ks := [4, 0, 1, 2, 3]) (sub_c rfl (sub_c rfl (sub_c rfl (sub_c rfl (sub_c rfl (sub_n)))))) rfl (by decide) ?_
  dsimp only
  exact hK T _ _ _ W (jn J K1) _ (rel_jn hrel) (by omega) rfl (by omega) (by omega)
theorem lw_15 (hK : lwK n0 T i c u J Qh) (h : rel T W J J) : bH 12 (S0 n0) R0 mt_La_law Qh 1278 [(4, .int (Int32.ofNat i)), (0, .ref 0), (1, .ref 1), (2, .ref 130), (3, .ref 166)] [] W J g L c u := hK T g c u W J L h (by omega) rfl (by omega) (by omega)
theorem lt_sub {a b q : Nat} (ha : a < 1073741824) (hb : b < 1073741824) (hq : q < 1073741824) : Int32.ofNat a - Int32.ofNat b < Int32.ofNat q ↔ a < q + b := by
  rw [Int32.lt_iff_toInt_lt, i_ts ha hb, i_ti (by omega)]
  omega
theorem n15 (x : Int32) : ∃ n, n < 16 ∧ x &&& Int32.ofNat 15 = Int32.ofNat n := by
  refine ⟨(x.toBitVec &&& 15#32).toNat, ?_, ?_⟩
  · rw [BitVec.toNat_and]
    exact Nat.lt_of_le_of_lt Nat.and_le_right (by decide)
  · apply Int32.toBitVec.inj
    rw [i_bv, BitVec.ofNat_toNat, BitVec.setWidth_eq]
    rfl
/-- the loop of the law -/
theorem lw_loop {n0 : Nat} (hn : n0 ≤ 3075) : ∀ (r j T : Nat) (W : bw_W) (J : bw_J) (g : Nat) (L : bw_L) (c u : Nat), j + r = 600 → rel T W J J → T ≤ 40 * j → c ≤ 300000 + j → u ≤ 5000000 + 6 * j → bT 12 (S0 n0) R0 mt_La_law (fun o _ _ _ _ => o = .inl (some (.int 1))) 53 [(4, .int (Int32.ofNat (3 + 6 * j))), (0, .ref 0), (1, .ref 1), (2, .ref 130), (3, .ref 166)] [] W J g L c u := by
  intro r
  induction r with
  | zero =>
    intro j T W J g L c u hj h hT hc hu
    have hSR := SR0 n0
    refine b_il (pc2 := 55) d_La_law_53 rfl rfl ?_
    refine b_aln (pc2 := 56) d_La_law_55 rfl rfl ?_
    refine b_len (pc2 := 57) d_La_law_56 (rfl) (Or.inr ⟨rfl, rfl⟩) rfl ?_
    refine b_bp (pc2 := 59) (x := Int32.ofNat 6) d_La_law_57 rfl rfl ?_
    refine b_pure (pc2 := 60) d_La_law_59 rfl rfl rfl ?_
    refine b_ifd (pc2 := 1284) d_La_law_60 rfl rfl rfl rfl rfl (fun h60 => ?_) (fun h60 => ?_)
    rotate_left
    · exact absurd ((lt_sub (by omega) (by decide) (by omega)).mpr (by omega)) h60
    refine b_ic (pc2 := 1285) (x := Int32.ofNat 1) d_La_law_1284 rfl rfl ?_
    refine b_br d_La_law_1285 rfl (by decide) ?_
    exact rfl
  | succ r ih =>
    intro j T W J g L c u hj h hT hc hu
    have hSR := SR0 n0
    refine b_il (pc2 := 55) d_La_law_53 rfl rfl ?_
    refine b_aln (pc2 := 56) d_La_law_55 rfl rfl ?_
    refine b_len (pc2 := 57) d_La_law_56 (rfl) (Or.inr ⟨rfl, rfl⟩) rfl ?_
    refine b_bp (pc2 := 59) (x := Int32.ofNat 6) d_La_law_57 rfl rfl ?_
    refine b_pure (pc2 := 60) d_La_law_59 rfl rfl rfl ?_
    refine b_ifd (pc2 := 1284) d_La_law_60 rfl rfl rfl rfl rfl (fun h60 => ?_) (fun h60 => ?_)
    · refine b_ic (pc2 := 1285) (x := Int32.ofNat 1) d_La_law_1284 rfl rfl ?_
      refine b_br d_La_law_1285 rfl (by decide) ?_
      exact rfl
    · rw [lt_sub (by omega) (by decide) (by omega)] at h60
      have hi : 3 + 6 * j + 6 ≤ n0 := by omega
      refine b_aln (pc2 := 64) d_La_law_63 rfl rfl ?_
      refine b_il (pc2 := 66) d_La_law_64 rfl rfl ?_
      refine b_ia0 (pc2 := 67) (q := (3 + 6 * j)) d_La_law_66 rfl (i_in (show 3 + 6 * j < n0 by omega) (by omega)) (i_tn (by omega)) rc0 rfl ?_
      refine b_bp (pc2 := 69) (x := Int32.ofNat 15) d_La_law_67 rfl rfl ?_
      refine b_pure (pc2 := 70) d_La_law_69 rfl rfl rfl ?_
      have hK : lwK n0 T (3 + 6 * j) c u J (bw_Q (S0 n0) R0 (fun o _ _ _ _ => o = .inl (some (.int 1)))) := fun T1 g1 c1 u1 W1 J1 L1 a1 a2 a3 a4 a5 => by
        refine b_inc (pc2 := 1281) (al2 := [(4, _), (0, _), (1, _), (2, _), (3, _)]) (y := Int32.ofNat 6) d_La_law_1278 (by decide) rfl rfl rfl rfl ?_
        rw [i_add]
        refine b_go (pc2 := 53) d_La_law_1281 rfl ?_
        rw [show 3 + 6 * j + 6 = 3 + 6 * (j + 1) by omega]
        exact ih (j + 1) T1 W1 J1 g1 L1 c1 u1 (by omega) a1 (by omega) (by omega) (by omega)
      obtain ⟨q, hq16, hqe⟩ := n15 (J 0 (3 + 6 * j))
      rw [hqe]
      rcases (show q = 0 ∨ q = 1 ∨ q = 2 ∨ q = 3 ∨ q = 4 ∨ q = 5 ∨ q = 6 ∨ q = 7 ∨ q = 8 ∨ q = 9 ∨ q = 10 ∨ q = 11 ∨ q = 12 ∨ q = 13 ∨ q = 14 ∨ q = 15 by omega) with rfl | rfl | rfl | rfl | rfl | rfl | rfl | rfl | rfl | rfl | rfl | rfl | rfl | rfl | rfl | rfl
      · refine b_sw (pc2 := 144) (off := 74) d_La_law_70 rfl rfl rfl rfl rfl ?_
        exact lw_0 hi hn (by omega) (by omega) h (by omega) hK
      · refine b_sw (pc2 := 268) (off := 198) d_La_law_70 rfl rfl rfl rfl rfl ?_
        exact lw_1 hi hn (by omega) (by omega) h (by omega) hK
      · refine b_sw (pc2 := 408) (off := 338) d_La_law_70 rfl rfl rfl rfl rfl ?_
        exact lw_2 hi hn (by omega) (by omega) h (by omega) hK
      · refine b_sw (pc2 := 472) (off := 402) d_La_law_70 rfl rfl rfl rfl rfl ?_
        exact lw_3 hi hn (by omega) (by omega) h (by omega) hK
      · refine b_sw (pc2 := 520) (off := 450) d_La_law_70 rfl rfl rfl rfl rfl ?_
        exact lw_4 hi hn (by omega) (by omega) h (by omega) hK
      · refine b_sw (pc2 := 640) (off := 570) d_La_law_70 rfl rfl rfl rfl rfl ?_
        exact lw_5 hi hn (by omega) (by omega) h (by omega) hK
      · refine b_sw (pc2 := 720) (off := 650) d_La_law_70 rfl rfl rfl rfl rfl ?_
        exact lw_6 hi hn (by omega) (by omega) h (by omega) hK
      · refine b_sw (pc2 := 864) (off := 794) d_La_law_70 rfl rfl rfl rfl rfl ?_
        exact lw_7 hi hn (by omega) (by omega) h (by omega) hK
      · refine b_sw (pc2 := 920) (off := 850) d_La_law_70 rfl rfl rfl rfl rfl ?_
        exact lw_8 hi hn (by omega) (by omega) h (by omega) hK
      · refine b_sw (pc2 := 964) (off := 894) d_La_law_70 rfl rfl rfl rfl rfl ?_
        exact lw_9 hi hn (by omega) (by omega) h (by omega) hK
      · refine b_sw (pc2 := 977) (off := 907) d_La_law_70 rfl rfl rfl rfl rfl ?_
        exact lw_10 hi hn (by omega) (by omega) h (by omega) hK
      · refine b_sw (pc2 := 1033) (off := 963) d_La_law_70 rfl rfl rfl rfl rfl ?_
        exact lw_11 hi hn (by omega) (by omega) h (by omega) hK
      · refine b_sw (pc2 := 1101) (off := 1031) d_La_law_70 rfl rfl rfl rfl rfl ?_
        exact lw_12 hi hn (by omega) (by omega) h (by omega) hK
      · refine b_sw (pc2 := 1169) (off := 1099) d_La_law_70 rfl rfl rfl rfl rfl ?_
        exact lw_13 hi hn (by omega) (by omega) h (by omega) hK
      · refine b_sw (pc2 := 1253) (off := 1183) d_La_law_70 rfl rfl rfl rfl rfl ?_
        exact lw_14 hi hn (by omega) (by omega) h (by omega) hK
      · refine b_sw (pc2 := 1278) (off := 1208) d_La_law_70 rfl rfl rfl rfl rfl ?_
        exact lw_15 hK h
end LW
