/-! Part 98 (written by gen73.py): the reference's constructor -/
abbrev moH : List (Nat × Nat) := [(11, 62), (101, 37), (100, 16), (100, 2), (100, 2), (100, 2), (101, 2), (100, 2), (100, 2), (100, 16), (100, 384), (100, 16), (100, 2), (100, 2), (100, 2), (100, 96), (100, 2), (101, 2), (100, 32), (100, 2), (100, 24), (100, 40), (100, 10), (100, 10), (100, 10), (100, 160), (100, 16), (100, 4), (100, 4), (100, 4), (100, 80), (100, 24), (100, 64), (100, 8), (100, 4), (100, 96)]
abbrev moP (b : Nat) : List (List (Option Nat)) := [[none, none, some (b + 2), none, none, none, none, none, none, some (b + 3), some (b + 4), some (b + 5), some (b + 6), some (b + 7), some (b + 8), some (b + 9), some (b + 10), some (b + 11), some (b + 12), some (b + 13), some (b + 14), some (b + 15), some (b + 16), some (b + 17), some (b + 18), some (b + 19), some (b + 20), none, some (b + 21), none, some (b + 22), none, some (b + 23), some (b + 24), some (b + 25), some (b + 26), some (b + 27), none, none, none, some (b + 28), some (b + 29), some (b + 30), some (b + 31), none, none, none, none, none, none, none, some (b + 32), none, some (b + 33), none, none, some (b + 34), none, none, none, some (b + 35), some (b + 36)], [], [], [], [], [], [], [], [], [], [], [], [], [], [], [], [], [], [], [], [], [], [], [], [], [], [], [], [], [], [], [], [], [], [], []]
def moK (b : Nat) (J : bw_J) (m : Nat → Bool) (k : Nat) : bw_J := am_u2 (am_u1 J (b + 2) (fun i => if i < k then bI (m i) else 0)) (b + 1) 3 (Int32.ofNat (cM m k))
def moA (b : Nat) (J : bw_J) (m : Nat → Bool) (k : Nat) : bw_J := am_u2 (am_u1 J (b + 2) (fun i => if i < k then Int32.ofNat 1 else if i < 37 then bI (m i) else 0)) (b + 1) 3 (Int32.ofNat (cM m 37))
theorem moK_0 {b : Nat} {J : bw_J} {m : Nat → Bool} (h2 : J (b + 2) = fun _ => 0) (h1 : J (b + 1) 3 = Int32.ofNat 0) : moK b J m 0 = J := by
  unfold moK
  have e2 : am_u1 J (b + 2) (fun i => if i < 0 then bI (m i) else 0) = J := by
    have := u1_id J (b + 2)
    rw [h2] at this
    rw [show (fun i => if i < 0 then bI (m i) else 0) = fun _ => (0 : Int32) from funext fun i => if_neg (by omega)]
    exact this
  rw [e2]
  exact u2_idq h1
theorem moK_3 {b : Nat} {J : bw_J} {m : Nat → Bool} {k : Nat} : moK b J m k (b + 1) 3 = Int32.ofNat (cM m k) := u2_at _ _ _ _
theorem moK_1 {b : Nat} {J : bw_J} {m : Nat → Bool} {k i : Nat} (h : ¬ i = 3) : moK b J m k (b + 1) i = J (b + 1) i := by
  unfold moK
  rw [u2_k _ _ h, u1_ne _ _ (by omega)]
theorem moK_2 {b : Nat} {J : bw_J} {m : Nat → Bool} {k : Nat} : moK b J m k (b + 2) = fun i => if i < k then bI (m i) else 0 := by
  unfold moK
  rw [u2_a _ _ (by omega), u1_at]
theorem moK_o {b : Nat} {J : bw_J} {m : Nat → Bool} {k c : Nat} (h1 : ¬ c = b + 1) (h2 : ¬ c = b + 2) : moK b J m k c = J c := by
  unfold moK
  rw [u2_a _ _ h1, u1_ne _ _ h2]
theorem mo_up {b k : Nat} {J : bw_J} {f f' : Nat → Int32} {x y z : Int32} (hf : ∀ i, f' i = if i = k then y else f i) : am_u2 (am_u2 (am_u2 (am_u1 J (b + 2) f) (b + 1) 3 x) (b + 2) k y) (b + 1) 3 z = am_u2 (am_u1 J (b + 2) f') (b + 1) 3 z := by
  funext c
  by_cases c1 : c = b + 1
  · subst c1
    funext i
    by_cases hi : i = 3
    · subst hi; rw [u2_at, u2_at]
    · rw [u2_k _ _ hi, u2_k _ _ hi, u2_a _ _ (by omega), u2_k _ _ hi, u1_ne _ _ (by omega), u1_ne _ _ (by omega)]
  · rw [u2_a _ _ c1, u2_a _ _ c1]
    by_cases c2 : c = b + 2
    · subst c2
      funext i
      rw [u1_at, hf i]
      by_cases hi : i = k
      · subst hi; rw [u2_at, if_pos rfl]
      · rw [u2_k _ _ hi, u2_a _ _ c1, u1_at, if_neg hi]
    · rw [u2_a _ _ c2, u2_a _ _ c1, u1_ne _ _ c2, u1_ne _ _ c2]
theorem moK_s {b : Nat} {J : bw_J} {m : Nat → Bool} {k : Nat} {z : Int32} (hz : z = Int32.ofNat (cM m (k + 1))) : am_u2 (am_u2 (moK b J m k) (b + 2) k (bI (m k))) (b + 1) 3 z = moK b J m (k + 1) := by
  subst hz
  unfold moK
  refine mo_up fun i => ?_
  by_cases hi : i = k
  · subst hi; rw [if_pos (by omega), if_pos rfl]
  · rw [if_neg hi]
    by_cases h2 : i < k
    · rw [if_pos h2, if_pos (by omega)]
    · rw [if_neg h2, if_neg (by omega)]
theorem moA_s {b : Nat} {J : bw_J} {m : Nat → Bool} {k : Nat} : am_u2 (moA b J m k) (b + 2) k (Int32.ofNat 1) = moA b J m (k + 1) := by
  have e : am_u2 (am_u2 (moA b J m k) (b + 2) k (Int32.ofNat 1)) (b + 1) 3 (Int32.ofNat (cM m 37)) = moA b J m (k + 1) := by
    unfold moA
    refine mo_up fun i => ?_
    by_cases hi : i = k
    · subst hi; rw [if_pos (by omega), if_pos rfl]
    · rw [if_neg hi]
      by_cases h2 : i < k
      · rw [if_pos h2, if_pos (by omega)]
      · rw [if_neg h2, if_neg (show ¬ i < k + 1 by omega)]
  rw [← e]
  refine (u2_idq ?_).symm
  rw [u2_a _ _ (by omega)]
  exact u2_at _ _ _ _
theorem moA_0 {b : Nat} {J : bw_J} {m : Nat → Bool} : moA b J m 0 = moK b J m 37 := by
  unfold moA moK
  congr 2
theorem moA_e {b : Nat} {J : bw_J} {m : Nat → Bool} : am_u2 (moA b J m 37) (b + 1) 3 (Int32.ofNat 37) = moK b J (fun _ => true) 37 := by
  unfold moA moK
  rw [cM_all]
  funext c
  by_cases c1 : c = b + 1
  · subst c1
    funext i
    by_cases hi : i = 3
    · subst hi; rw [u2_at, u2_at]
    · rw [u2_k _ _ hi, u2_k _ _ hi, u2_k _ _ hi, u1_ne _ _ (by omega), u1_ne _ _ (by omega)]
  · rw [u2_a _ _ c1, u2_a _ _ c1, u2_a _ _ c1]
    by_cases c2 : c = b + 2
    · subst c2
      rw [u1_at, u1_at]
      funext i
      by_cases h2 : i < 37
      · rw [if_pos h2, if_pos h2]; rfl
      · rw [if_neg h2, if_neg h2, if_neg h2]
    · rw [u1_ne _ _ c2, u1_ne _ _ c2]
theorem bI_ok (x : Bool) : bI x = 0 ∨ bI x = 1 := by cases x <;> decide
section MO
variable {d N b : Nat} {H : List (Nat × Nat)} {P : List (List (Option Nat))} {J : bw_J} {W : bw_W}
theorem mo_lp2 (hb : H.length = b) (hp : P.length = b) {m : Nat → Bool} {f h u a : Int32} (hm : cM m 37 < 2) : ∀ r k, k + r = 37 → bH d (hLS N (H ++ moH) (P ++ moP b)) r0 mt_Mo_init (cR (hLS N (H ++ moH) (P ++ moP b)) (moK b J (if cM m 37 < 2 then fun _ => true else m) 37)) 423 [(5, .int (Int32.ofNat k)), (4, .int f), (0, .ref (b + 1)), (1, .int h), (2, .int u), (3, .int a)] [] W (moA b J m k) 0 lz 35 1179 := by
  intro r
  induction r with
  | zero =>
    intro k hk
    obtain rfl : k = 37 := by omega
    refine b_il (pc2 := 425) d_Mo_init_423 rfl rfl ?_
    refine b_bp (pc2 := 427) (x := Int32.ofNat 37) d_Mo_init_425 rfl rfl ?_
    refine b_ifd (pc2 := 444) d_Mo_init_427 rfl rfl rfl rfl rfl (fun h427 => ?_) (fun h427 => ?_)
    rotate_left
    · exact absurd (by decide) h427
    refine b_aln (pc2 := 445) d_Mo_init_444 rfl rfl ?_
    refine b_bp (pc2 := 447) (x := Int32.ofNat 37) d_Mo_init_445 rfl rfl ?_
    refine b_pi (pc2 := 450) d_Mo_init_447 q_11_132 (show _ from hLS_sh (i := 0) hb rfl) (by decide) (Or.inl (by decide)) (Or.inl rfl) (bw_rc0 _) rfl ?_
    rw [moA_e, if_pos hm]
    exact c_vr d_Mo_init_450 rfl
  | succ r ih =>
    intro k hk
    refine b_il (pc2 := 425) d_Mo_init_423 rfl rfl ?_
    refine b_bp (pc2 := 427) (x := Int32.ofNat 37) d_Mo_init_425 rfl rfl ?_
    refine b_ifd (pc2 := 444) d_Mo_init_427 rfl rfl rfl rfl rfl (fun h427 => ?_) (fun h427 => ?_)
    · exact absurd h427 (fun z => by rw [i_le (by omega) (by omega)] at z; omega)
    refine b_aln (pc2 := 431) d_Mo_init_430 rfl rfl ?_
    refine b_gr (pc2 := 434) d_Mo_init_431 q_11_7 (show _ from hLS_sh (i := 0) hb rfl) (by decide) (by decide) (show _ from hLS_p (i := 0) (j := b + 2) hp rfl) rfl ?_
    refine b_il (pc2 := 436) d_Mo_init_434 rfl rfl ?_
    refine b_ic (pc2 := 437) (x := Int32.ofNat 1) d_Mo_init_436 rfl rfl ?_
    refine b_bst (pc2 := 438) (q := k) d_Mo_init_437 (show _ from hLS_sh (i := 1) hb rfl) (i_in (show k < 37 by omega) (by decide)) (i_tn (by omega)) (bw_rc0 _) (Or.inr rfl) rfl ?_
    rw [moA_s]
    refine b_inc (pc2 := 441) (al2 := [(5, _), (4, _), (0, _), (1, _), (2, _), (3, _)]) (y := Int32.ofNat 1) d_Mo_init_438 (by decide) rfl rfl rfl rfl ?_
    rw [i_add]
    refine b_go (pc2 := 423) d_Mo_init_441 rfl ?_
    exact ih (k + 1) (by omega)
theorem mo_lp1 (hb : H.length = b) (hp : P.length = b) {m : Nat → Bool} {f h u a : Int32} (hm : m = mk u a) : ∀ r k, k + r = 37 → bH d (hLS N (H ++ moH) (P ++ moP b)) r0 mt_Mo_init (cR (hLS N (H ++ moH) (P ++ moP b)) (moK b J (if cM m 37 < 2 then fun _ => true else m) 37)) 322 [(5, .int (Int32.ofNat k)), (4, .int f), (0, .ref (b + 1)), (1, .int h), (2, .int u), (3, .int a)] [] W (moK b J m k) 0 lz 35 1179 := by
  intro r
  induction r with
  | zero =>
    intro k hk
    obtain rfl : k = 37 := by omega
    have hcm := cM_le m 37
    refine b_il (pc2 := 324) d_Mo_init_322 rfl rfl ?_
    refine b_bp (pc2 := 326) (x := Int32.ofNat 37) d_Mo_init_324 rfl rfl ?_
    refine b_ifd (pc2 := 412) d_Mo_init_326 rfl rfl rfl rfl rfl (fun h326 => ?_) (fun h326 => ?_)
    rotate_left
    · exact absurd (by decide) h326
    refine b_aln (pc2 := 413) d_Mo_init_412 rfl rfl ?_
    refine b_gi (pc2 := 416) d_Mo_init_413 q_11_132 (show _ from hLS_sh (i := 0) hb rfl) (by decide) (by decide) (bw_rc0 _) rfl ?_
    rw [moK_3]
    refine b_ic (pc2 := 417) (x := Int32.ofNat 2) d_Mo_init_416 rfl rfl ?_
    refine b_ifd (pc2 := 450) d_Mo_init_417 rfl rfl rfl rfl rfl (fun h417 => ?_) (fun h417 => ?_)
    · rw [i_le (by omega) (by omega)] at h417
      rw [if_neg (show ¬ cM m 37 < 2 by omega)]
      exact c_vr d_Mo_init_450 rfl
    · rw [i_le (by omega) (by omega)] at h417
      refine b_ic (pc2 := 421) (x := Int32.ofNat 0) d_Mo_init_420 rfl rfl ?_
      refine b_is (pc2 := 423) (al2 := [(5, _), (4, _), (0, _), (1, _), (2, _), (3, _)]) d_Mo_init_421 (by decide) rfl rfl ?_
      have := mo_lp2 (d := d) (N := N) (W := W) (J := J) (f := f) (h := h) (u := u) (a := a) hb hp (show cM m 37 < 2 by omega) 37 0 (by decide)
      rw [moA_0] at this
      exact this
  | succ r ih =>
    intro k hk
    have hcm := cM_le m k
    have hst : bH d (hLS N (H ++ moH) (P ++ moP b)) r0 mt_Mo_init (cR (hLS N (H ++ moH) (P ++ moP b)) (moK b J (if cM m 37 < 2 then fun _ => true else m) 37)) 378 [(5, .int (Int32.ofNat k)), (4, .int f), (0, .ref (b + 1)), (1, .int h), (2, .int u), (3, .int a)] [.int (bI (m k)), .int (Int32.ofNat k), .ref (b + 2), .ref (b + 1)].dropLast W (moK b J m k) 0 lz 35 1179 := by
      refine b_bst (pc2 := 379) (q := k) d_Mo_init_378 (show _ from hLS_sh (i := 1) hb rfl) (i_in (show k < 37 by omega) (by decide)) (i_tn (by omega)) (bw_rc0 _) (bI_ok _) rfl ?_
      refine b_aln (pc2 := 380) d_Mo_init_379 rfl rfl ?_
      refine b_aln (pc2 := 381) d_Mo_init_380 rfl rfl ?_
      refine b_gr (pc2 := 384) d_Mo_init_381 q_11_7 (show _ from hLS_sh (i := 0) hb rfl) (by decide) (by decide) (show _ from hLS_p (i := 0) (j := b + 2) hp rfl) rfl ?_
      refine b_il (pc2 := 386) d_Mo_init_384 rfl rfl ?_
      refine b_ba (pc2 := 387) (q := k) d_Mo_init_386 (show _ from hLS_sh (i := 1) hb rfl) (i_in (show k < 37 by omega) (by decide)) (i_tn (by omega)) (bw_rc0 _) rfl ?_
      rw [u2_at]
      refine b_ifd (pc2 := 399) d_Mo_init_387 rfl rfl rfl rfl rfl (fun h387 => ?_) (fun h387 => ?_)
      · rw [bI_0] at h387
        refine b_aln (pc2 := 400) d_Mo_init_399 rfl rfl ?_
        refine b_gi (pc2 := 403) d_Mo_init_400 q_11_132 (show _ from hLS_sh (i := 0) hb rfl) (by decide) (by decide) (bw_rc0 _) rfl ?_
        rw [u2_a _ _ (by omega), moK_3]
        refine b_pi (pc2 := 406) d_Mo_init_403 q_11_132 (show _ from hLS_sh (i := 0) hb rfl) (by decide) (Or.inl (by decide)) (Or.inl rfl) (bw_rc0 _) rfl ?_
        rw [moK_s (by show _ = Int32.ofNat (if m k = true then _ else _); rw [if_neg (by rw [h387]; decide)])]
        refine b_inc (pc2 := 409) (al2 := [(5, _), (4, _), (0, _), (1, _), (2, _), (3, _)]) (y := Int32.ofNat 1) d_Mo_init_406 (by decide) rfl rfl rfl rfl ?_
        rw [i_add]
        refine b_go (pc2 := 322) d_Mo_init_409 rfl ?_
        exact ih (k + 1) (by omega)
      · rw [bI_0] at h387
        refine b_aln (pc2 := 391) d_Mo_init_390 rfl rfl ?_
        refine b_gi (pc2 := 394) d_Mo_init_391 q_11_132 (show _ from hLS_sh (i := 0) hb rfl) (by decide) (by decide) (bw_rc0 _) rfl ?_
        rw [u2_a _ _ (by omega), moK_3]
        refine b_ic (pc2 := 395) (x := Int32.ofNat 1) d_Mo_init_394 rfl rfl ?_
        refine b_pure (pc2 := 396) d_Mo_init_395 rfl rfl rfl ?_
        rw [i_add]
        refine b_go (pc2 := 403) d_Mo_init_396 rfl ?_
        refine b_pi (pc2 := 406) d_Mo_init_403 q_11_132 (show _ from hLS_sh (i := 0) hb rfl) (by decide) (Or.inl (by decide)) (Or.inl rfl) (bw_rc0 _) rfl ?_
        rw [moK_s (by show _ = Int32.ofNat (if m k = true then _ else _); rw [if_pos (by simpa using h387)])]
        refine b_inc (pc2 := 409) (al2 := [(5, _), (4, _), (0, _), (1, _), (2, _), (3, _)]) (y := Int32.ofNat 1) d_Mo_init_406 (by decide) rfl rfl rfl rfl ?_
        rw [i_add]
        refine b_go (pc2 := 322) d_Mo_init_409 rfl ?_
        exact ih (k + 1) (by omega)
    refine b_il (pc2 := 324) d_Mo_init_322 rfl rfl ?_
    refine b_bp (pc2 := 326) (x := Int32.ofNat 37) d_Mo_init_324 rfl rfl ?_
    refine b_ifd (pc2 := 412) d_Mo_init_326 rfl rfl rfl rfl rfl (fun h326 => ?_) (fun h326 => ?_)
    · exact absurd h326 (fun z => by rw [i_le (by omega) (by omega)] at z; omega)
    refine b_aln (pc2 := 330) d_Mo_init_329 rfl rfl ?_
    refine b_gr (pc2 := 333) d_Mo_init_330 q_11_7 (show _ from hLS_sh (i := 0) hb rfl) (by decide) (by decide) (show _ from hLS_p (i := 0) (j := b + 2) hp rfl) rfl ?_
    refine b_il (pc2 := 335) d_Mo_init_333 rfl rfl ?_
    refine b_il (pc2 := 337) d_Mo_init_335 rfl rfl ?_
    refine b_bp (pc2 := 339) (x := Int32.ofNat 32) d_Mo_init_337 rfl rfl ?_
    refine b_ifd (pc2 := 360) d_Mo_init_339 rfl rfl rfl rfl rfl (fun h339 => ?_) (fun h339 => ?_)
    · rw [i_le (by omega) (by omega)] at h339
      refine b_iln (pc2 := 361) d_Mo_init_360 rfl rfl ?_
      refine b_il (pc2 := 363) d_Mo_init_361 rfl rfl ?_
      refine b_bp (pc2 := 365) (x := Int32.ofNat 32) d_Mo_init_363 rfl rfl ?_
      refine b_pure (pc2 := 366) d_Mo_init_365 rfl rfl rfl ?_
      rw [i_sub h339]
      refine b_pure (pc2 := 367) d_Mo_init_366 rfl rfl rfl ?_
      refine b_ic (pc2 := 368) (x := Int32.ofNat 1) d_Mo_init_367 rfl rfl ?_
      refine b_pure (pc2 := 369) d_Mo_init_368 rfl rfl rfl ?_
      refine b_ic (pc2 := 370) (x := Int32.ofNat 1) d_Mo_init_369 rfl rfl ?_
      refine b_ifd (pc2 := 377) d_Mo_init_370 rfl rfl rfl rfl rfl (fun h370 => ?_) (fun h370 => ?_)
      · refine b_ic (pc2 := 378) (x := Int32.ofNat 0) d_Mo_init_377 rfl rfl ?_
        have e : bI (m k) = Int32.ofNat 0 := by
          rw [hm]; unfold bI mk bt
          rw [if_neg (show ¬ k < 32 by omega), if_neg (by rw [decide_eq_false h370]; decide)]
        rw [← e]; exact hst
      · refine b_ic (pc2 := 374) (x := Int32.ofNat 1) d_Mo_init_373 rfl rfl ?_
        refine b_go (pc2 := 378) d_Mo_init_374 rfl ?_
        have e : bI (m k) = Int32.ofNat 1 := by
          rw [hm]; unfold bI mk bt
          rw [if_neg (show ¬ k < 32 by omega), if_pos (decide_eq_true (Classical.not_not.1 h370))]
        rw [e] at hst; exact hst
    · rw [i_le (by omega) (by omega)] at h339
      refine b_iln (pc2 := 343) d_Mo_init_342 rfl rfl ?_
      refine b_il (pc2 := 345) d_Mo_init_343 rfl rfl ?_
      refine b_pure (pc2 := 346) d_Mo_init_345 rfl rfl rfl ?_
      refine b_ic (pc2 := 347) (x := Int32.ofNat 1) d_Mo_init_346 rfl rfl ?_
      refine b_pure (pc2 := 348) d_Mo_init_347 rfl rfl rfl ?_
      refine b_ic (pc2 := 349) (x := Int32.ofNat 1) d_Mo_init_348 rfl rfl ?_
      refine b_ifd (pc2 := 356) d_Mo_init_349 rfl rfl rfl rfl rfl (fun h349 => ?_) (fun h349 => ?_)
      · refine b_ic (pc2 := 357) (x := Int32.ofNat 0) d_Mo_init_356 rfl rfl ?_
        refine b_go (pc2 := 378) d_Mo_init_357 rfl ?_
        have e : bI (m k) = Int32.ofNat 0 := by
          rw [hm]; unfold bI mk bt
          rw [if_pos (show k < 32 by omega), if_neg (by rw [decide_eq_false h349]; decide)]
        rw [e] at hst; exact hst
      · refine b_ic (pc2 := 353) (x := Int32.ofNat 1) d_Mo_init_352 rfl rfl ?_
        refine b_go (pc2 := 378) d_Mo_init_353 rfl ?_
        have e : bI (m k) = Int32.ofNat 1 := by
          rw [hm]; unfold bI mk bt
          rw [if_pos (show k < 32 by omega), if_pos (decide_eq_true (Classical.not_not.1 h349))]
        rw [e] at hst; exact hst
theorem mo_hop (hb : H.length = b) (hp : P.length = b) {m : Nat → Bool} {hh : Nat} {f h u a : Int32} (hm : m = mk u a) (z2 : J (b + 2) = fun _ => 0) (z3 : J (b + 1) 3 = 0) : bH d (hLS N (H ++ moH) (P ++ moP b)) r0 mt_Mo_init (cR (hLS N (H ++ moH) (P ++ moP b)) (moK b (am_u2 J (b + 1) 1 (Int32.ofNat (5 + hh))) (if cM m 37 < 2 then fun _ => true else m) 37)) 315 [(4, .int f), (0, .ref (b + 1)), (1, .int h), (2, .int u), (3, .int a)] [.int (Int32.ofNat hh), .int (Int32.ofNat 5), .ref (b + 1)] W J 0 lz 35 1179 := by
  refine b_pure (pc2 := 316) d_Mo_init_315 rfl rfl rfl ?_
  rw [i_add]
  refine b_pi (pc2 := 319) d_Mo_init_316 q_11_129 (show _ from hLS_sh (i := 0) hb rfl) (by decide) (Or.inr ⟨rfl, rfl⟩) (Or.inl rfl) (bw_rc0 _) rfl ?_
  refine b_ic (pc2 := 320) (x := Int32.ofNat 0) d_Mo_init_319 rfl rfl ?_
  refine b_is (pc2 := 322) (al2 := [(5, _), (4, _), (0, _), (1, _), (2, _), (3, _)]) d_Mo_init_320 (by decide) rfl rfl ?_
  have := mo_lp1 (d := d) (N := N) (W := W) (J := am_u2 J (b + 1) 1 (Int32.ofNat (5 + hh))) (f := f) (h := h) (u := u) (a := a) hb hp hm 37 0 (by decide)
  rw [moK_0 (by rw [u2_a _ _ (by omega)]; exact z2) (by rw [u2_k _ _ (by decide), z3]; rfl)] at this
  exact this
end MO
theorem ci_Mo_init {d N : Nat} (hd : 1 ≤ d) {h u a : Int32} {hh : Nat} (hr : (¬ 0 ≤ rm12 h ∧ rm12 h + Int32.ofNat 12 = Int32.ofNat hh) ∨ (0 ≤ rm12 h ∧ rm12 h = Int32.ofNat hh)) : cS d N 127 [.int h, .int u, .int a] (11, 62) moH moP (fun b J => moK b (am_u2 (am_u2 (am_u2 (am_u2 (am_u2 J (b + 1) 5 ((-1))) (b + 1) 37 (Int32.ofNat 8)) (b + 1) 44 (Int32.ofNat 8)) (b + 1) 47 (Int32.ofNat 1)) (b + 1) 1 (Int32.ofNat (5 + hh))) (if cM (mk u a) 37 < 2 then fun _ => true else mk u a) 37) := by
  obtain ⟨d, rfl⟩ : ∃ e, d = e + 1 := ⟨d - 1, by omega⟩
  refine cS_of (fun _ => Nat.le_of_ble_eq_true rfl) (fun b H P J hb hp hz => ?_)
  show bH d (hLS N (H ++ [(11, 62)]) (P ++ [[]])) r0 mt_Mo_init _ 0 [(0, .ref (b + 1)), (1, .int h), (2, .int u), (3, .int a)] [] _ J 0 lz 0 0
  refine b_aln (pc2 := 1) d_Mo_init_0 rfl rfl ?_
  refine c_sup (pc2 := 4) d_Mo_init_1 q_11_1 (Nat.le_of_ble_eq_true rfl) rfl ?_
  refine b_aln (pc2 := 5) d_Mo_init_4 rfl rfl ?_
  refine b_bp (pc2 := 7) (x := Int32.ofNat 37) d_Mo_init_5 rfl rfl ?_
  refine c_newa (pc2 := 9) (n := 1) (a := b + 2) (t := 101) (q := 37) d_Mo_init_7 (Or.inr (Or.inl ⟨rfl, rfl⟩)) (by decide) hb hp rfl rfl (fun q hq => hz q (by omega)) (by decide) (by decide) rfl rfl ?_
  refine c_cv (tH2 := [(11, 62), (101, 37)]) (tP2 := [[], []]) rfl rfl ?_
  refine c_putR (pc2 := 12) (q := 0) (a := b + 1) d_Mo_init_9 q_11_7 hb hp rfl (Nat.le_of_ble_eq_true rfl) (by decide) (Or.inr ⟨rfl, rfl⟩) rfl rfl rfl ?_
  refine c_cv (tH2 := [(11, 62), (101, 37)]) (tP2 := [[none, none, some (b + 2)], []]) rfl rfl ?_
  refine b_aln (pc2 := 13) d_Mo_init_12 rfl rfl ?_
  refine b_ic (pc2 := 14) (x := -1) d_Mo_init_13 rfl rfl ?_
  refine b_pi (pc2 := 17) d_Mo_init_14 q_11_13 (show _ from hLS_sh (i := 0) hb rfl) (by decide) (Or.inl (by decide)) (Or.inl rfl) (bw_rc0 _) rfl ?_
  refine b_aln (pc2 := 18) d_Mo_init_17 rfl rfl ?_
  refine b_bp (pc2 := 20) (x := Int32.ofNat 16) d_Mo_init_18 rfl rfl ?_
  refine c_newa (pc2 := 22) (n := 2) (a := b + 3) (t := 100) (q := 16) d_Mo_init_20 (Or.inl ⟨rfl, rfl⟩) (by decide) hb hp rfl rfl (fun q hq => by rw [u2_a _ _ (by omega)]; exact hz q (by omega)) (by decide) (by decide) rfl rfl ?_
  refine c_cv (tH2 := [(11, 62), (101, 37), (100, 16)]) (tP2 := [[none, none, some (b + 2)], [], []]) rfl rfl ?_
  refine c_putR (pc2 := 25) (q := 0) (a := b + 1) d_Mo_init_22 q_11_17 hb hp rfl (Nat.le_of_ble_eq_true rfl) (by decide) (Or.inr ⟨rfl, rfl⟩) rfl rfl rfl ?_
  refine c_cv (tH2 := [(11, 62), (101, 37), (100, 16)]) (tP2 := [[none, none, some (b + 2), none, none, none, none, none, none, some (b + 3)], [], []]) rfl rfl ?_
  refine b_aln (pc2 := 26) d_Mo_init_25 rfl rfl ?_
  refine b_ic (pc2 := 27) (x := Int32.ofNat 2) d_Mo_init_26 rfl rfl ?_
  refine c_newa (pc2 := 29) (n := 3) (a := b + 4) (t := 100) (q := 2) d_Mo_init_27 (Or.inl ⟨rfl, rfl⟩) (by decide) hb hp rfl rfl (fun q hq => by rw [u2_a _ _ (by omega)]; exact hz q (by omega)) (by decide) (by decide) rfl rfl ?_
  refine c_cv (tH2 := [(11, 62), (101, 37), (100, 16), (100, 2)]) (tP2 := [[none, none, some (b + 2), none, none, none, none, none, none, some (b + 3)], [], [], []]) rfl rfl ?_
  refine c_putR (pc2 := 32) (q := 0) (a := b + 1) d_Mo_init_29 q_11_21 hb hp rfl (Nat.le_of_ble_eq_true rfl) (by decide) (Or.inr ⟨rfl, rfl⟩) rfl rfl rfl ?_
  refine c_cv (tH2 := [(11, 62), (101, 37), (100, 16), (100, 2)]) (tP2 := [[none, none, some (b + 2), none, none, none, none, none, none, some (b + 3), some (b + 4)], [], [], []]) rfl rfl ?_
  refine b_aln (pc2 := 33) d_Mo_init_32 rfl rfl ?_
  refine b_ic (pc2 := 34) (x := Int32.ofNat 2) d_Mo_init_33 rfl rfl ?_
  refine c_newa (pc2 := 36) (n := 4) (a := b + 5) (t := 100) (q := 2) d_Mo_init_34 (Or.inl ⟨rfl, rfl⟩) (by decide) hb hp rfl rfl (fun q hq => by rw [u2_a _ _ (by omega)]; exact hz q (by omega)) (by decide) (by decide) rfl rfl ?_
  refine c_cv (tH2 := [(11, 62), (101, 37), (100, 16), (100, 2), (100, 2)]) (tP2 := [[none, none, some (b + 2), none, none, none, none, none, none, some (b + 3), some (b + 4)], [], [], [], []]) rfl rfl ?_
  refine c_putR (pc2 := 39) (q := 0) (a := b + 1) d_Mo_init_36 q_11_24 hb hp rfl (Nat.le_of_ble_eq_true rfl) (by decide) (Or.inr ⟨rfl, rfl⟩) rfl rfl rfl ?_
  refine c_cv (tH2 := [(11, 62), (101, 37), (100, 16), (100, 2), (100, 2)]) (tP2 := [[none, none, some (b + 2), none, none, none, none, none, none, some (b + 3), some (b + 4), some (b + 5)], [], [], [], []]) rfl rfl ?_
  refine b_aln (pc2 := 40) d_Mo_init_39 rfl rfl ?_
  refine b_ic (pc2 := 41) (x := Int32.ofNat 2) d_Mo_init_40 rfl rfl ?_
  refine c_newa (pc2 := 43) (n := 5) (a := b + 6) (t := 100) (q := 2) d_Mo_init_41 (Or.inl ⟨rfl, rfl⟩) (by decide) hb hp rfl rfl (fun q hq => by rw [u2_a _ _ (by omega)]; exact hz q (by omega)) (by decide) (by decide) rfl rfl ?_
  refine c_cv (tH2 := [(11, 62), (101, 37), (100, 16), (100, 2), (100, 2), (100, 2)]) (tP2 := [[none, none, some (b + 2), none, none, none, none, none, none, some (b + 3), some (b + 4), some (b + 5)], [], [], [], [], []]) rfl rfl ?_
  refine c_putR (pc2 := 46) (q := 0) (a := b + 1) d_Mo_init_43 q_11_27 hb hp rfl (Nat.le_of_ble_eq_true rfl) (by decide) (Or.inr ⟨rfl, rfl⟩) rfl rfl rfl ?_
  refine c_cv (tH2 := [(11, 62), (101, 37), (100, 16), (100, 2), (100, 2), (100, 2)]) (tP2 := [[none, none, some (b + 2), none, none, none, none, none, none, some (b + 3), some (b + 4), some (b + 5), some (b + 6)], [], [], [], [], []]) rfl rfl ?_
  refine b_aln (pc2 := 47) d_Mo_init_46 rfl rfl ?_
  refine b_ic (pc2 := 48) (x := Int32.ofNat 2) d_Mo_init_47 rfl rfl ?_
  refine c_newa (pc2 := 50) (n := 6) (a := b + 7) (t := 101) (q := 2) d_Mo_init_48 (Or.inr (Or.inl ⟨rfl, rfl⟩)) (by decide) hb hp rfl rfl (fun q hq => by rw [u2_a _ _ (by omega)]; exact hz q (by omega)) (by decide) (by decide) rfl rfl ?_
  refine c_cv (tH2 := [(11, 62), (101, 37), (100, 16), (100, 2), (100, 2), (100, 2), (101, 2)]) (tP2 := [[none, none, some (b + 2), none, none, none, none, none, none, some (b + 3), some (b + 4), some (b + 5), some (b + 6)], [], [], [], [], [], []]) rfl rfl ?_
  refine c_putR (pc2 := 53) (q := 0) (a := b + 1) d_Mo_init_50 q_11_30 hb hp rfl (Nat.le_of_ble_eq_true rfl) (by decide) (Or.inr ⟨rfl, rfl⟩) rfl rfl rfl ?_
  refine c_cv (tH2 := [(11, 62), (101, 37), (100, 16), (100, 2), (100, 2), (100, 2), (101, 2)]) (tP2 := [[none, none, some (b + 2), none, none, none, none, none, none, some (b + 3), some (b + 4), some (b + 5), some (b + 6), some (b + 7)], [], [], [], [], [], []]) rfl rfl ?_
  refine b_aln (pc2 := 54) d_Mo_init_53 rfl rfl ?_
  refine b_ic (pc2 := 55) (x := Int32.ofNat 2) d_Mo_init_54 rfl rfl ?_
  refine c_newa (pc2 := 57) (n := 7) (a := b + 8) (t := 100) (q := 2) d_Mo_init_55 (Or.inl ⟨rfl, rfl⟩) (by decide) hb hp rfl rfl (fun q hq => by rw [u2_a _ _ (by omega)]; exact hz q (by omega)) (by decide) (by decide) rfl rfl ?_
  refine c_cv (tH2 := [(11, 62), (101, 37), (100, 16), (100, 2), (100, 2), (100, 2), (101, 2), (100, 2)]) (tP2 := [[none, none, some (b + 2), none, none, none, none, none, none, some (b + 3), some (b + 4), some (b + 5), some (b + 6), some (b + 7)], [], [], [], [], [], [], []]) rfl rfl ?_
  refine c_putR (pc2 := 60) (q := 0) (a := b + 1) d_Mo_init_57 q_11_33 hb hp rfl (Nat.le_of_ble_eq_true rfl) (by decide) (Or.inr ⟨rfl, rfl⟩) rfl rfl rfl ?_
  refine c_cv (tH2 := [(11, 62), (101, 37), (100, 16), (100, 2), (100, 2), (100, 2), (101, 2), (100, 2)]) (tP2 := [[none, none, some (b + 2), none, none, none, none, none, none, some (b + 3), some (b + 4), some (b + 5), some (b + 6), some (b + 7), some (b + 8)], [], [], [], [], [], [], []]) rfl rfl ?_
  refine b_aln (pc2 := 61) d_Mo_init_60 rfl rfl ?_
  refine b_ic (pc2 := 62) (x := Int32.ofNat 2) d_Mo_init_61 rfl rfl ?_
  refine c_newa (pc2 := 64) (n := 8) (a := b + 9) (t := 100) (q := 2) d_Mo_init_62 (Or.inl ⟨rfl, rfl⟩) (by decide) hb hp rfl rfl (fun q hq => by rw [u2_a _ _ (by omega)]; exact hz q (by omega)) (by decide) (by decide) rfl rfl ?_
  refine c_cv (tH2 := [(11, 62), (101, 37), (100, 16), (100, 2), (100, 2), (100, 2), (101, 2), (100, 2), (100, 2)]) (tP2 := [[none, none, some (b + 2), none, none, none, none, none, none, some (b + 3), some (b + 4), some (b + 5), some (b + 6), some (b + 7), some (b + 8)], [], [], [], [], [], [], [], []]) rfl rfl ?_
  refine c_putR (pc2 := 67) (q := 0) (a := b + 1) d_Mo_init_64 q_11_36 hb hp rfl (Nat.le_of_ble_eq_true rfl) (by decide) (Or.inr ⟨rfl, rfl⟩) rfl rfl rfl ?_
  refine c_cv (tH2 := [(11, 62), (101, 37), (100, 16), (100, 2), (100, 2), (100, 2), (101, 2), (100, 2), (100, 2)]) (tP2 := [[none, none, some (b + 2), none, none, none, none, none, none, some (b + 3), some (b + 4), some (b + 5), some (b + 6), some (b + 7), some (b + 8), some (b + 9)], [], [], [], [], [], [], [], []]) rfl rfl ?_
  refine b_aln (pc2 := 68) d_Mo_init_67 rfl rfl ?_
  refine b_bp (pc2 := 70) (x := Int32.ofNat 16) d_Mo_init_68 rfl rfl ?_
  refine c_newa (pc2 := 72) (n := 9) (a := b + 10) (t := 100) (q := 16) d_Mo_init_70 (Or.inl ⟨rfl, rfl⟩) (by decide) hb hp rfl rfl (fun q hq => by rw [u2_a _ _ (by omega)]; exact hz q (by omega)) (by decide) (by decide) rfl rfl ?_
  refine c_cv (tH2 := [(11, 62), (101, 37), (100, 16), (100, 2), (100, 2), (100, 2), (101, 2), (100, 2), (100, 2), (100, 16)]) (tP2 := [[none, none, some (b + 2), none, none, none, none, none, none, some (b + 3), some (b + 4), some (b + 5), some (b + 6), some (b + 7), some (b + 8), some (b + 9)], [], [], [], [], [], [], [], [], []]) rfl rfl ?_
  refine c_putR (pc2 := 75) (q := 0) (a := b + 1) d_Mo_init_72 q_11_39 hb hp rfl (Nat.le_of_ble_eq_true rfl) (by decide) (Or.inr ⟨rfl, rfl⟩) rfl rfl rfl ?_
  refine c_cv (tH2 := [(11, 62), (101, 37), (100, 16), (100, 2), (100, 2), (100, 2), (101, 2), (100, 2), (100, 2), (100, 16)]) (tP2 := [[none, none, some (b + 2), none, none, none, none, none, none, some (b + 3), some (b + 4), some (b + 5), some (b + 6), some (b + 7), some (b + 8), some (b + 9), some (b + 10)], [], [], [], [], [], [], [], [], []]) rfl rfl ?_
  refine b_aln (pc2 := 76) d_Mo_init_75 rfl rfl ?_
  refine b_sp (pc2 := 79) (x := Int32.ofNat 384) d_Mo_init_76 rfl rfl ?_
  refine c_newa (pc2 := 81) (n := 10) (a := b + 11) (t := 100) (q := 384) d_Mo_init_79 (Or.inl ⟨rfl, rfl⟩) (by decide) hb hp rfl rfl (fun q hq => by rw [u2_a _ _ (by omega)]; exact hz q (by omega)) (by decide) (by decide) rfl rfl ?_
  refine c_cv (tH2 := [(11, 62), (101, 37), (100, 16), (100, 2), (100, 2), (100, 2), (101, 2), (100, 2), (100, 2), (100, 16), (100, 384)]) (tP2 := [[none, none, some (b + 2), none, none, none, none, none, none, some (b + 3), some (b + 4), some (b + 5), some (b + 6), some (b + 7), some (b + 8), some (b + 9), some (b + 10)], [], [], [], [], [], [], [], [], [], []]) rfl rfl ?_
  refine c_putR (pc2 := 84) (q := 0) (a := b + 1) d_Mo_init_81 q_11_42 hb hp rfl (Nat.le_of_ble_eq_true rfl) (by decide) (Or.inr ⟨rfl, rfl⟩) rfl rfl rfl ?_
  refine c_cv (tH2 := [(11, 62), (101, 37), (100, 16), (100, 2), (100, 2), (100, 2), (101, 2), (100, 2), (100, 2), (100, 16), (100, 384)]) (tP2 := [[none, none, some (b + 2), none, none, none, none, none, none, some (b + 3), some (b + 4), some (b + 5), some (b + 6), some (b + 7), some (b + 8), some (b + 9), some (b + 10), some (b + 11)], [], [], [], [], [], [], [], [], [], []]) rfl rfl ?_
  refine b_aln (pc2 := 85) d_Mo_init_84 rfl rfl ?_
  refine b_bp (pc2 := 87) (x := Int32.ofNat 16) d_Mo_init_85 rfl rfl ?_
  refine c_newa (pc2 := 89) (n := 11) (a := b + 12) (t := 100) (q := 16) d_Mo_init_87 (Or.inl ⟨rfl, rfl⟩) (by decide) hb hp rfl rfl (fun q hq => by rw [u2_a _ _ (by omega)]; exact hz q (by omega)) (by decide) (by decide) rfl rfl ?_
  refine c_cv (tH2 := [(11, 62), (101, 37), (100, 16), (100, 2), (100, 2), (100, 2), (101, 2), (100, 2), (100, 2), (100, 16), (100, 384), (100, 16)]) (tP2 := [[none, none, some (b + 2), none, none, none, none, none, none, some (b + 3), some (b + 4), some (b + 5), some (b + 6), some (b + 7), some (b + 8), some (b + 9), some (b + 10), some (b + 11)], [], [], [], [], [], [], [], [], [], [], []]) rfl rfl ?_
  refine c_putR (pc2 := 92) (q := 0) (a := b + 1) d_Mo_init_89 q_11_45 hb hp rfl (Nat.le_of_ble_eq_true rfl) (by decide) (Or.inr ⟨rfl, rfl⟩) rfl rfl rfl ?_
  refine c_cv (tH2 := [(11, 62), (101, 37), (100, 16), (100, 2), (100, 2), (100, 2), (101, 2), (100, 2), (100, 2), (100, 16), (100, 384), (100, 16)]) (tP2 := [[none, none, some (b + 2), none, none, none, none, none, none, some (b + 3), some (b + 4), some (b + 5), some (b + 6), some (b + 7), some (b + 8), some (b + 9), some (b + 10), some (b + 11), some (b + 12)], [], [], [], [], [], [], [], [], [], [], []]) rfl rfl ?_
  refine b_aln (pc2 := 93) d_Mo_init_92 rfl rfl ?_
  refine b_ic (pc2 := 94) (x := Int32.ofNat 2) d_Mo_init_93 rfl rfl ?_
  refine c_newa (pc2 := 96) (n := 12) (a := b + 13) (t := 100) (q := 2) d_Mo_init_94 (Or.inl ⟨rfl, rfl⟩) (by decide) hb hp rfl rfl (fun q hq => by rw [u2_a _ _ (by omega)]; exact hz q (by omega)) (by decide) (by decide) rfl rfl ?_
  refine c_cv (tH2 := [(11, 62), (101, 37), (100, 16), (100, 2), (100, 2), (100, 2), (101, 2), (100, 2), (100, 2), (100, 16), (100, 384), (100, 16), (100, 2)]) (tP2 := [[none, none, some (b + 2), none, none, none, none, none, none, some (b + 3), some (b + 4), some (b + 5), some (b + 6), some (b + 7), some (b + 8), some (b + 9), some (b + 10), some (b + 11), some (b + 12)], [], [], [], [], [], [], [], [], [], [], [], []]) rfl rfl ?_
  refine c_putR (pc2 := 99) (q := 0) (a := b + 1) d_Mo_init_96 q_11_48 hb hp rfl (Nat.le_of_ble_eq_true rfl) (by decide) (Or.inr ⟨rfl, rfl⟩) rfl rfl rfl ?_
  refine c_cv (tH2 := [(11, 62), (101, 37), (100, 16), (100, 2), (100, 2), (100, 2), (101, 2), (100, 2), (100, 2), (100, 16), (100, 384), (100, 16), (100, 2)]) (tP2 := [[none, none, some (b + 2), none, none, none, none, none, none, some (b + 3), some (b + 4), some (b + 5), some (b + 6), some (b + 7), some (b + 8), some (b + 9), some (b + 10), some (b + 11), some (b + 12), some (b + 13)], [], [], [], [], [], [], [], [], [], [], [], []]) rfl rfl ?_
  refine b_aln (pc2 := 100) d_Mo_init_99 rfl rfl ?_
  refine b_ic (pc2 := 101) (x := Int32.ofNat 2) d_Mo_init_100 rfl rfl ?_
  refine c_newa (pc2 := 103) (n := 13) (a := b + 14) (t := 100) (q := 2) d_Mo_init_101 (Or.inl ⟨rfl, rfl⟩) (by decide) hb hp rfl rfl (fun q hq => by rw [u2_a _ _ (by omega)]; exact hz q (by omega)) (by decide) (by decide) rfl rfl ?_
  refine c_cv (tH2 := [(11, 62), (101, 37), (100, 16), (100, 2), (100, 2), (100, 2), (101, 2), (100, 2), (100, 2), (100, 16), (100, 384), (100, 16), (100, 2), (100, 2)]) (tP2 := [[none, none, some (b + 2), none, none, none, none, none, none, some (b + 3), some (b + 4), some (b + 5), some (b + 6), some (b + 7), some (b + 8), some (b + 9), some (b + 10), some (b + 11), some (b + 12), some (b + 13)], [], [], [], [], [], [], [], [], [], [], [], [], []]) rfl rfl ?_
  refine c_putR (pc2 := 106) (q := 0) (a := b + 1) d_Mo_init_103 q_11_51 hb hp rfl (Nat.le_of_ble_eq_true rfl) (by decide) (Or.inr ⟨rfl, rfl⟩) rfl rfl rfl ?_
  refine c_cv (tH2 := [(11, 62), (101, 37), (100, 16), (100, 2), (100, 2), (100, 2), (101, 2), (100, 2), (100, 2), (100, 16), (100, 384), (100, 16), (100, 2), (100, 2)]) (tP2 := [[none, none, some (b + 2), none, none, none, none, none, none, some (b + 3), some (b + 4), some (b + 5), some (b + 6), some (b + 7), some (b + 8), some (b + 9), some (b + 10), some (b + 11), some (b + 12), some (b + 13), some (b + 14)], [], [], [], [], [], [], [], [], [], [], [], [], []]) rfl rfl ?_
  refine b_aln (pc2 := 107) d_Mo_init_106 rfl rfl ?_
  refine b_ic (pc2 := 108) (x := Int32.ofNat 2) d_Mo_init_107 rfl rfl ?_
  refine c_newa (pc2 := 110) (n := 14) (a := b + 15) (t := 100) (q := 2) d_Mo_init_108 (Or.inl ⟨rfl, rfl⟩) (by decide) hb hp rfl rfl (fun q hq => by rw [u2_a _ _ (by omega)]; exact hz q (by omega)) (by decide) (by decide) rfl rfl ?_
  refine c_cv (tH2 := [(11, 62), (101, 37), (100, 16), (100, 2), (100, 2), (100, 2), (101, 2), (100, 2), (100, 2), (100, 16), (100, 384), (100, 16), (100, 2), (100, 2), (100, 2)]) (tP2 := [[none, none, some (b + 2), none, none, none, none, none, none, some (b + 3), some (b + 4), some (b + 5), some (b + 6), some (b + 7), some (b + 8), some (b + 9), some (b + 10), some (b + 11), some (b + 12), some (b + 13), some (b + 14)], [], [], [], [], [], [], [], [], [], [], [], [], [], []]) rfl rfl ?_
  refine c_putR (pc2 := 113) (q := 0) (a := b + 1) d_Mo_init_110 q_11_54 hb hp rfl (Nat.le_of_ble_eq_true rfl) (by decide) (Or.inr ⟨rfl, rfl⟩) rfl rfl rfl ?_
  refine c_cv (tH2 := [(11, 62), (101, 37), (100, 16), (100, 2), (100, 2), (100, 2), (101, 2), (100, 2), (100, 2), (100, 16), (100, 384), (100, 16), (100, 2), (100, 2), (100, 2)]) (tP2 := [[none, none, some (b + 2), none, none, none, none, none, none, some (b + 3), some (b + 4), some (b + 5), some (b + 6), some (b + 7), some (b + 8), some (b + 9), some (b + 10), some (b + 11), some (b + 12), some (b + 13), some (b + 14), some (b + 15)], [], [], [], [], [], [], [], [], [], [], [], [], [], []]) rfl rfl ?_
  refine b_aln (pc2 := 114) d_Mo_init_113 rfl rfl ?_
  refine b_bp (pc2 := 116) (x := Int32.ofNat 96) d_Mo_init_114 rfl rfl ?_
  refine c_newa (pc2 := 118) (n := 15) (a := b + 16) (t := 100) (q := 96) d_Mo_init_116 (Or.inl ⟨rfl, rfl⟩) (by decide) hb hp rfl rfl (fun q hq => by rw [u2_a _ _ (by omega)]; exact hz q (by omega)) (by decide) (by decide) rfl rfl ?_
  refine c_cv (tH2 := [(11, 62), (101, 37), (100, 16), (100, 2), (100, 2), (100, 2), (101, 2), (100, 2), (100, 2), (100, 16), (100, 384), (100, 16), (100, 2), (100, 2), (100, 2), (100, 96)]) (tP2 := [[none, none, some (b + 2), none, none, none, none, none, none, some (b + 3), some (b + 4), some (b + 5), some (b + 6), some (b + 7), some (b + 8), some (b + 9), some (b + 10), some (b + 11), some (b + 12), some (b + 13), some (b + 14), some (b + 15)], [], [], [], [], [], [], [], [], [], [], [], [], [], [], []]) rfl rfl ?_
  refine c_putR (pc2 := 121) (q := 0) (a := b + 1) d_Mo_init_118 q_11_57 hb hp rfl (Nat.le_of_ble_eq_true rfl) (by decide) (Or.inr ⟨rfl, rfl⟩) rfl rfl rfl ?_
  refine c_cv (tH2 := [(11, 62), (101, 37), (100, 16), (100, 2), (100, 2), (100, 2), (101, 2), (100, 2), (100, 2), (100, 16), (100, 384), (100, 16), (100, 2), (100, 2), (100, 2), (100, 96)]) (tP2 := [[none, none, some (b + 2), none, none, none, none, none, none, some (b + 3), some (b + 4), some (b + 5), some (b + 6), some (b + 7), some (b + 8), some (b + 9), some (b + 10), some (b + 11), some (b + 12), some (b + 13), some (b + 14), some (b + 15), some (b + 16)], [], [], [], [], [], [], [], [], [], [], [], [], [], [], []]) rfl rfl ?_
  refine b_aln (pc2 := 122) d_Mo_init_121 rfl rfl ?_
  refine b_ic (pc2 := 123) (x := Int32.ofNat 2) d_Mo_init_122 rfl rfl ?_
  refine c_newa (pc2 := 125) (n := 16) (a := b + 17) (t := 100) (q := 2) d_Mo_init_123 (Or.inl ⟨rfl, rfl⟩) (by decide) hb hp rfl rfl (fun q hq => by rw [u2_a _ _ (by omega)]; exact hz q (by omega)) (by decide) (by decide) rfl rfl ?_
  refine c_cv (tH2 := [(11, 62), (101, 37), (100, 16), (100, 2), (100, 2), (100, 2), (101, 2), (100, 2), (100, 2), (100, 16), (100, 384), (100, 16), (100, 2), (100, 2), (100, 2), (100, 96), (100, 2)]) (tP2 := [[none, none, some (b + 2), none, none, none, none, none, none, some (b + 3), some (b + 4), some (b + 5), some (b + 6), some (b + 7), some (b + 8), some (b + 9), some (b + 10), some (b + 11), some (b + 12), some (b + 13), some (b + 14), some (b + 15), some (b + 16)], [], [], [], [], [], [], [], [], [], [], [], [], [], [], [], []]) rfl rfl ?_
  refine c_putR (pc2 := 128) (q := 0) (a := b + 1) d_Mo_init_125 q_11_60 hb hp rfl (Nat.le_of_ble_eq_true rfl) (by decide) (Or.inr ⟨rfl, rfl⟩) rfl rfl rfl ?_
  refine c_cv (tH2 := [(11, 62), (101, 37), (100, 16), (100, 2), (100, 2), (100, 2), (101, 2), (100, 2), (100, 2), (100, 16), (100, 384), (100, 16), (100, 2), (100, 2), (100, 2), (100, 96), (100, 2)]) (tP2 := [[none, none, some (b + 2), none, none, none, none, none, none, some (b + 3), some (b + 4), some (b + 5), some (b + 6), some (b + 7), some (b + 8), some (b + 9), some (b + 10), some (b + 11), some (b + 12), some (b + 13), some (b + 14), some (b + 15), some (b + 16), some (b + 17)], [], [], [], [], [], [], [], [], [], [], [], [], [], [], [], []]) rfl rfl ?_
  refine b_aln (pc2 := 129) d_Mo_init_128 rfl rfl ?_
  refine b_ic (pc2 := 130) (x := Int32.ofNat 2) d_Mo_init_129 rfl rfl ?_
  refine c_newa (pc2 := 132) (n := 17) (a := b + 18) (t := 101) (q := 2) d_Mo_init_130 (Or.inr (Or.inl ⟨rfl, rfl⟩)) (by decide) hb hp rfl rfl (fun q hq => by rw [u2_a _ _ (by omega)]; exact hz q (by omega)) (by decide) (by decide) rfl rfl ?_
  refine c_cv (tH2 := [(11, 62), (101, 37), (100, 16), (100, 2), (100, 2), (100, 2), (101, 2), (100, 2), (100, 2), (100, 16), (100, 384), (100, 16), (100, 2), (100, 2), (100, 2), (100, 96), (100, 2), (101, 2)]) (tP2 := [[none, none, some (b + 2), none, none, none, none, none, none, some (b + 3), some (b + 4), some (b + 5), some (b + 6), some (b + 7), some (b + 8), some (b + 9), some (b + 10), some (b + 11), some (b + 12), some (b + 13), some (b + 14), some (b + 15), some (b + 16), some (b + 17)], [], [], [], [], [], [], [], [], [], [], [], [], [], [], [], [], []]) rfl rfl ?_
  refine c_putR (pc2 := 135) (q := 0) (a := b + 1) d_Mo_init_132 q_11_63 hb hp rfl (Nat.le_of_ble_eq_true rfl) (by decide) (Or.inr ⟨rfl, rfl⟩) rfl rfl rfl ?_
  refine c_cv (tH2 := [(11, 62), (101, 37), (100, 16), (100, 2), (100, 2), (100, 2), (101, 2), (100, 2), (100, 2), (100, 16), (100, 384), (100, 16), (100, 2), (100, 2), (100, 2), (100, 96), (100, 2), (101, 2)]) (tP2 := [[none, none, some (b + 2), none, none, none, none, none, none, some (b + 3), some (b + 4), some (b + 5), some (b + 6), some (b + 7), some (b + 8), some (b + 9), some (b + 10), some (b + 11), some (b + 12), some (b + 13), some (b + 14), some (b + 15), some (b + 16), some (b + 17), some (b + 18)], [], [], [], [], [], [], [], [], [], [], [], [], [], [], [], [], []]) rfl rfl ?_
  refine b_aln (pc2 := 136) d_Mo_init_135 rfl rfl ?_
  refine b_bp (pc2 := 138) (x := Int32.ofNat 32) d_Mo_init_136 rfl rfl ?_
  refine c_newa (pc2 := 140) (n := 18) (a := b + 19) (t := 100) (q := 32) d_Mo_init_138 (Or.inl ⟨rfl, rfl⟩) (by decide) hb hp rfl rfl (fun q hq => by rw [u2_a _ _ (by omega)]; exact hz q (by omega)) (by decide) (by decide) rfl rfl ?_
  refine c_cv (tH2 := [(11, 62), (101, 37), (100, 16), (100, 2), (100, 2), (100, 2), (101, 2), (100, 2), (100, 2), (100, 16), (100, 384), (100, 16), (100, 2), (100, 2), (100, 2), (100, 96), (100, 2), (101, 2), (100, 32)]) (tP2 := [[none, none, some (b + 2), none, none, none, none, none, none, some (b + 3), some (b + 4), some (b + 5), some (b + 6), some (b + 7), some (b + 8), some (b + 9), some (b + 10), some (b + 11), some (b + 12), some (b + 13), some (b + 14), some (b + 15), some (b + 16), some (b + 17), some (b + 18)], [], [], [], [], [], [], [], [], [], [], [], [], [], [], [], [], [], []]) rfl rfl ?_
  refine c_putR (pc2 := 143) (q := 0) (a := b + 1) d_Mo_init_140 q_11_66 hb hp rfl (Nat.le_of_ble_eq_true rfl) (by decide) (Or.inr ⟨rfl, rfl⟩) rfl rfl rfl ?_
  refine c_cv (tH2 := [(11, 62), (101, 37), (100, 16), (100, 2), (100, 2), (100, 2), (101, 2), (100, 2), (100, 2), (100, 16), (100, 384), (100, 16), (100, 2), (100, 2), (100, 2), (100, 96), (100, 2), (101, 2), (100, 32)]) (tP2 := [[none, none, some (b + 2), none, none, none, none, none, none, some (b + 3), some (b + 4), some (b + 5), some (b + 6), some (b + 7), some (b + 8), some (b + 9), some (b + 10), some (b + 11), some (b + 12), some (b + 13), some (b + 14), some (b + 15), some (b + 16), some (b + 17), some (b + 18), some (b + 19)], [], [], [], [], [], [], [], [], [], [], [], [], [], [], [], [], [], []]) rfl rfl ?_
  refine b_aln (pc2 := 144) d_Mo_init_143 rfl rfl ?_
  refine b_ic (pc2 := 145) (x := Int32.ofNat 2) d_Mo_init_144 rfl rfl ?_
  refine c_newa (pc2 := 147) (n := 19) (a := b + 20) (t := 100) (q := 2) d_Mo_init_145 (Or.inl ⟨rfl, rfl⟩) (by decide) hb hp rfl rfl (fun q hq => by rw [u2_a _ _ (by omega)]; exact hz q (by omega)) (by decide) (by decide) rfl rfl ?_
  refine c_cv (tH2 := [(11, 62), (101, 37), (100, 16), (100, 2), (100, 2), (100, 2), (101, 2), (100, 2), (100, 2), (100, 16), (100, 384), (100, 16), (100, 2), (100, 2), (100, 2), (100, 96), (100, 2), (101, 2), (100, 32), (100, 2)]) (tP2 := [[none, none, some (b + 2), none, none, none, none, none, none, some (b + 3), some (b + 4), some (b + 5), some (b + 6), some (b + 7), some (b + 8), some (b + 9), some (b + 10), some (b + 11), some (b + 12), some (b + 13), some (b + 14), some (b + 15), some (b + 16), some (b + 17), some (b + 18), some (b + 19)], [], [], [], [], [], [], [], [], [], [], [], [], [], [], [], [], [], [], []]) rfl rfl ?_
  refine c_putR (pc2 := 150) (q := 0) (a := b + 1) d_Mo_init_147 q_11_69 hb hp rfl (Nat.le_of_ble_eq_true rfl) (by decide) (Or.inr ⟨rfl, rfl⟩) rfl rfl rfl ?_
  refine c_cv (tH2 := [(11, 62), (101, 37), (100, 16), (100, 2), (100, 2), (100, 2), (101, 2), (100, 2), (100, 2), (100, 16), (100, 384), (100, 16), (100, 2), (100, 2), (100, 2), (100, 96), (100, 2), (101, 2), (100, 32), (100, 2)]) (tP2 := [[none, none, some (b + 2), none, none, none, none, none, none, some (b + 3), some (b + 4), some (b + 5), some (b + 6), some (b + 7), some (b + 8), some (b + 9), some (b + 10), some (b + 11), some (b + 12), some (b + 13), some (b + 14), some (b + 15), some (b + 16), some (b + 17), some (b + 18), some (b + 19), some (b + 20)], [], [], [], [], [], [], [], [], [], [], [], [], [], [], [], [], [], [], []]) rfl rfl ?_
  refine b_aln (pc2 := 151) d_Mo_init_150 rfl rfl ?_
  refine b_bp (pc2 := 153) (x := Int32.ofNat 24) d_Mo_init_151 rfl rfl ?_
  refine c_newa (pc2 := 155) (n := 20) (a := b + 21) (t := 100) (q := 24) d_Mo_init_153 (Or.inl ⟨rfl, rfl⟩) (by decide) hb hp rfl rfl (fun q hq => by rw [u2_a _ _ (by omega)]; exact hz q (by omega)) (by decide) (by decide) rfl rfl ?_
  refine c_cv (tH2 := [(11, 62), (101, 37), (100, 16), (100, 2), (100, 2), (100, 2), (101, 2), (100, 2), (100, 2), (100, 16), (100, 384), (100, 16), (100, 2), (100, 2), (100, 2), (100, 96), (100, 2), (101, 2), (100, 32), (100, 2), (100, 24)]) (tP2 := [[none, none, some (b + 2), none, none, none, none, none, none, some (b + 3), some (b + 4), some (b + 5), some (b + 6), some (b + 7), some (b + 8), some (b + 9), some (b + 10), some (b + 11), some (b + 12), some (b + 13), some (b + 14), some (b + 15), some (b + 16), some (b + 17), some (b + 18), some (b + 19), some (b + 20)], [], [], [], [], [], [], [], [], [], [], [], [], [], [], [], [], [], [], [], []]) rfl rfl ?_
  refine c_putR (pc2 := 158) (q := 0) (a := b + 1) d_Mo_init_155 q_11_72 hb hp rfl (Nat.le_of_ble_eq_true rfl) (by decide) (Or.inr ⟨rfl, rfl⟩) rfl rfl rfl ?_
  refine c_cv (tH2 := [(11, 62), (101, 37), (100, 16), (100, 2), (100, 2), (100, 2), (101, 2), (100, 2), (100, 2), (100, 16), (100, 384), (100, 16), (100, 2), (100, 2), (100, 2), (100, 96), (100, 2), (101, 2), (100, 32), (100, 2), (100, 24)]) (tP2 := [[none, none, some (b + 2), none, none, none, none, none, none, some (b + 3), some (b + 4), some (b + 5), some (b + 6), some (b + 7), some (b + 8), some (b + 9), some (b + 10), some (b + 11), some (b + 12), some (b + 13), some (b + 14), some (b + 15), some (b + 16), some (b + 17), some (b + 18), some (b + 19), some (b + 20), none, some (b + 21)], [], [], [], [], [], [], [], [], [], [], [], [], [], [], [], [], [], [], [], []]) rfl rfl ?_
  refine b_aln (pc2 := 159) d_Mo_init_158 rfl rfl ?_
  refine b_bp (pc2 := 161) (x := Int32.ofNat 40) d_Mo_init_159 rfl rfl ?_
  refine c_newa (pc2 := 163) (n := 21) (a := b + 22) (t := 100) (q := 40) d_Mo_init_161 (Or.inl ⟨rfl, rfl⟩) (by decide) hb hp rfl rfl (fun q hq => by rw [u2_a _ _ (by omega)]; exact hz q (by omega)) (by decide) (by decide) rfl rfl ?_
  refine c_cv (tH2 := [(11, 62), (101, 37), (100, 16), (100, 2), (100, 2), (100, 2), (101, 2), (100, 2), (100, 2), (100, 16), (100, 384), (100, 16), (100, 2), (100, 2), (100, 2), (100, 96), (100, 2), (101, 2), (100, 32), (100, 2), (100, 24), (100, 40)]) (tP2 := [[none, none, some (b + 2), none, none, none, none, none, none, some (b + 3), some (b + 4), some (b + 5), some (b + 6), some (b + 7), some (b + 8), some (b + 9), some (b + 10), some (b + 11), some (b + 12), some (b + 13), some (b + 14), some (b + 15), some (b + 16), some (b + 17), some (b + 18), some (b + 19), some (b + 20), none, some (b + 21)], [], [], [], [], [], [], [], [], [], [], [], [], [], [], [], [], [], [], [], [], []]) rfl rfl ?_
  refine c_putR (pc2 := 166) (q := 0) (a := b + 1) d_Mo_init_163 q_11_75 hb hp rfl (Nat.le_of_ble_eq_true rfl) (by decide) (Or.inr ⟨rfl, rfl⟩) rfl rfl rfl ?_
  refine c_cv (tH2 := [(11, 62), (101, 37), (100, 16), (100, 2), (100, 2), (100, 2), (101, 2), (100, 2), (100, 2), (100, 16), (100, 384), (100, 16), (100, 2), (100, 2), (100, 2), (100, 96), (100, 2), (101, 2), (100, 32), (100, 2), (100, 24), (100, 40)]) (tP2 := [[none, none, some (b + 2), none, none, none, none, none, none, some (b + 3), some (b + 4), some (b + 5), some (b + 6), some (b + 7), some (b + 8), some (b + 9), some (b + 10), some (b + 11), some (b + 12), some (b + 13), some (b + 14), some (b + 15), some (b + 16), some (b + 17), some (b + 18), some (b + 19), some (b + 20), none, some (b + 21), none, some (b + 22)], [], [], [], [], [], [], [], [], [], [], [], [], [], [], [], [], [], [], [], [], []]) rfl rfl ?_
  refine b_aln (pc2 := 167) d_Mo_init_166 rfl rfl ?_
  refine b_bp (pc2 := 169) (x := Int32.ofNat 10) d_Mo_init_167 rfl rfl ?_
  refine c_newa (pc2 := 171) (n := 22) (a := b + 23) (t := 100) (q := 10) d_Mo_init_169 (Or.inl ⟨rfl, rfl⟩) (by decide) hb hp rfl rfl (fun q hq => by rw [u2_a _ _ (by omega)]; exact hz q (by omega)) (by decide) (by decide) rfl rfl ?_
  refine c_cv (tH2 := [(11, 62), (101, 37), (100, 16), (100, 2), (100, 2), (100, 2), (101, 2), (100, 2), (100, 2), (100, 16), (100, 384), (100, 16), (100, 2), (100, 2), (100, 2), (100, 96), (100, 2), (101, 2), (100, 32), (100, 2), (100, 24), (100, 40), (100, 10)]) (tP2 := [[none, none, some (b + 2), none, none, none, none, none, none, some (b + 3), some (b + 4), some (b + 5), some (b + 6), some (b + 7), some (b + 8), some (b + 9), some (b + 10), some (b + 11), some (b + 12), some (b + 13), some (b + 14), some (b + 15), some (b + 16), some (b + 17), some (b + 18), some (b + 19), some (b + 20), none, some (b + 21), none, some (b + 22)], [], [], [], [], [], [], [], [], [], [], [], [], [], [], [], [], [], [], [], [], [], []]) rfl rfl ?_
  refine c_putR (pc2 := 174) (q := 0) (a := b + 1) d_Mo_init_171 q_11_78 hb hp rfl (Nat.le_of_ble_eq_true rfl) (by decide) (Or.inr ⟨rfl, rfl⟩) rfl rfl rfl ?_
  refine c_cv (tH2 := [(11, 62), (101, 37), (100, 16), (100, 2), (100, 2), (100, 2), (101, 2), (100, 2), (100, 2), (100, 16), (100, 384), (100, 16), (100, 2), (100, 2), (100, 2), (100, 96), (100, 2), (101, 2), (100, 32), (100, 2), (100, 24), (100, 40), (100, 10)]) (tP2 := [[none, none, some (b + 2), none, none, none, none, none, none, some (b + 3), some (b + 4), some (b + 5), some (b + 6), some (b + 7), some (b + 8), some (b + 9), some (b + 10), some (b + 11), some (b + 12), some (b + 13), some (b + 14), some (b + 15), some (b + 16), some (b + 17), some (b + 18), some (b + 19), some (b + 20), none, some (b + 21), none, some (b + 22), none, some (b + 23)], [], [], [], [], [], [], [], [], [], [], [], [], [], [], [], [], [], [], [], [], [], []]) rfl rfl ?_
  refine b_aln (pc2 := 175) d_Mo_init_174 rfl rfl ?_
  refine b_bp (pc2 := 177) (x := Int32.ofNat 10) d_Mo_init_175 rfl rfl ?_
  refine c_newa (pc2 := 179) (n := 23) (a := b + 24) (t := 100) (q := 10) d_Mo_init_177 (Or.inl ⟨rfl, rfl⟩) (by decide) hb hp rfl rfl (fun q hq => by rw [u2_a _ _ (by omega)]; exact hz q (by omega)) (by decide) (by decide) rfl rfl ?_
  refine c_cv (tH2 := [(11, 62), (101, 37), (100, 16), (100, 2), (100, 2), (100, 2), (101, 2), (100, 2), (100, 2), (100, 16), (100, 384), (100, 16), (100, 2), (100, 2), (100, 2), (100, 96), (100, 2), (101, 2), (100, 32), (100, 2), (100, 24), (100, 40), (100, 10), (100, 10)]) (tP2 := [[none, none, some (b + 2), none, none, none, none, none, none, some (b + 3), some (b + 4), some (b + 5), some (b + 6), some (b + 7), some (b + 8), some (b + 9), some (b + 10), some (b + 11), some (b + 12), some (b + 13), some (b + 14), some (b + 15), some (b + 16), some (b + 17), some (b + 18), some (b + 19), some (b + 20), none, some (b + 21), none, some (b + 22), none, some (b + 23)], [], [], [], [], [], [], [], [], [], [], [], [], [], [], [], [], [], [], [], [], [], [], []]) rfl rfl ?_
  refine c_putR (pc2 := 182) (q := 0) (a := b + 1) d_Mo_init_179 q_11_81 hb hp rfl (Nat.le_of_ble_eq_true rfl) (by decide) (Or.inr ⟨rfl, rfl⟩) rfl rfl rfl ?_
  refine c_cv (tH2 := [(11, 62), (101, 37), (100, 16), (100, 2), (100, 2), (100, 2), (101, 2), (100, 2), (100, 2), (100, 16), (100, 384), (100, 16), (100, 2), (100, 2), (100, 2), (100, 96), (100, 2), (101, 2), (100, 32), (100, 2), (100, 24), (100, 40), (100, 10), (100, 10)]) (tP2 := [[none, none, some (b + 2), none, none, none, none, none, none, some (b + 3), some (b + 4), some (b + 5), some (b + 6), some (b + 7), some (b + 8), some (b + 9), some (b + 10), some (b + 11), some (b + 12), some (b + 13), some (b + 14), some (b + 15), some (b + 16), some (b + 17), some (b + 18), some (b + 19), some (b + 20), none, some (b + 21), none, some (b + 22), none, some (b + 23), some (b + 24)], [], [], [], [], [], [], [], [], [], [], [], [], [], [], [], [], [], [], [], [], [], [], []]) rfl rfl ?_
  refine b_aln (pc2 := 183) d_Mo_init_182 rfl rfl ?_
  refine b_bp (pc2 := 185) (x := Int32.ofNat 10) d_Mo_init_183 rfl rfl ?_
  refine c_newa (pc2 := 187) (n := 24) (a := b + 25) (t := 100) (q := 10) d_Mo_init_185 (Or.inl ⟨rfl, rfl⟩) (by decide) hb hp rfl rfl (fun q hq => by rw [u2_a _ _ (by omega)]; exact hz q (by omega)) (by decide) (by decide) rfl rfl ?_
  refine c_cv (tH2 := [(11, 62), (101, 37), (100, 16), (100, 2), (100, 2), (100, 2), (101, 2), (100, 2), (100, 2), (100, 16), (100, 384), (100, 16), (100, 2), (100, 2), (100, 2), (100, 96), (100, 2), (101, 2), (100, 32), (100, 2), (100, 24), (100, 40), (100, 10), (100, 10), (100, 10)]) (tP2 := [[none, none, some (b + 2), none, none, none, none, none, none, some (b + 3), some (b + 4), some (b + 5), some (b + 6), some (b + 7), some (b + 8), some (b + 9), some (b + 10), some (b + 11), some (b + 12), some (b + 13), some (b + 14), some (b + 15), some (b + 16), some (b + 17), some (b + 18), some (b + 19), some (b + 20), none, some (b + 21), none, some (b + 22), none, some (b + 23), some (b + 24)], [], [], [], [], [], [], [], [], [], [], [], [], [], [], [], [], [], [], [], [], [], [], [], []]) rfl rfl ?_
  refine c_putR (pc2 := 190) (q := 0) (a := b + 1) d_Mo_init_187 q_11_84 hb hp rfl (Nat.le_of_ble_eq_true rfl) (by decide) (Or.inr ⟨rfl, rfl⟩) rfl rfl rfl ?_
  refine c_cv (tH2 := [(11, 62), (101, 37), (100, 16), (100, 2), (100, 2), (100, 2), (101, 2), (100, 2), (100, 2), (100, 16), (100, 384), (100, 16), (100, 2), (100, 2), (100, 2), (100, 96), (100, 2), (101, 2), (100, 32), (100, 2), (100, 24), (100, 40), (100, 10), (100, 10), (100, 10)]) (tP2 := [[none, none, some (b + 2), none, none, none, none, none, none, some (b + 3), some (b + 4), some (b + 5), some (b + 6), some (b + 7), some (b + 8), some (b + 9), some (b + 10), some (b + 11), some (b + 12), some (b + 13), some (b + 14), some (b + 15), some (b + 16), some (b + 17), some (b + 18), some (b + 19), some (b + 20), none, some (b + 21), none, some (b + 22), none, some (b + 23), some (b + 24), some (b + 25)], [], [], [], [], [], [], [], [], [], [], [], [], [], [], [], [], [], [], [], [], [], [], [], []]) rfl rfl ?_
  refine b_aln (pc2 := 191) d_Mo_init_190 rfl rfl ?_
  refine b_sp (pc2 := 194) (x := Int32.ofNat 160) d_Mo_init_191 rfl rfl ?_
  refine c_newa (pc2 := 196) (n := 25) (a := b + 26) (t := 100) (q := 160) d_Mo_init_194 (Or.inl ⟨rfl, rfl⟩) (by decide) hb hp rfl rfl (fun q hq => by rw [u2_a _ _ (by omega)]; exact hz q (by omega)) (by decide) (by decide) rfl rfl ?_
  refine c_cv (tH2 := [(11, 62), (101, 37), (100, 16), (100, 2), (100, 2), (100, 2), (101, 2), (100, 2), (100, 2), (100, 16), (100, 384), (100, 16), (100, 2), (100, 2), (100, 2), (100, 96), (100, 2), (101, 2), (100, 32), (100, 2), (100, 24), (100, 40), (100, 10), (100, 10), (100, 10), (100, 160)]) (tP2 := [[none, none, some (b + 2), none, none, none, none, none, none, some (b + 3), some (b + 4), some (b + 5), some (b + 6), some (b + 7), some (b + 8), some (b + 9), some (b + 10), some (b + 11), some (b + 12), some (b + 13), some (b + 14), some (b + 15), some (b + 16), some (b + 17), some (b + 18), some (b + 19), some (b + 20), none, some (b + 21), none, some (b + 22), none, some (b + 23), some (b + 24), some (b + 25)], [], [], [], [], [], [], [], [], [], [], [], [], [], [], [], [], [], [], [], [], [], [], [], [], []]) rfl rfl ?_
  refine c_putR (pc2 := 199) (q := 0) (a := b + 1) d_Mo_init_196 q_11_87 hb hp rfl (Nat.le_of_ble_eq_true rfl) (by decide) (Or.inr ⟨rfl, rfl⟩) rfl rfl rfl ?_
  refine c_cv (tH2 := [(11, 62), (101, 37), (100, 16), (100, 2), (100, 2), (100, 2), (101, 2), (100, 2), (100, 2), (100, 16), (100, 384), (100, 16), (100, 2), (100, 2), (100, 2), (100, 96), (100, 2), (101, 2), (100, 32), (100, 2), (100, 24), (100, 40), (100, 10), (100, 10), (100, 10), (100, 160)]) (tP2 := [[none, none, some (b + 2), none, none, none, none, none, none, some (b + 3), some (b + 4), some (b + 5), some (b + 6), some (b + 7), some (b + 8), some (b + 9), some (b + 10), some (b + 11), some (b + 12), some (b + 13), some (b + 14), some (b + 15), some (b + 16), some (b + 17), some (b + 18), some (b + 19), some (b + 20), none, some (b + 21), none, some (b + 22), none, some (b + 23), some (b + 24), some (b + 25), some (b + 26)], [], [], [], [], [], [], [], [], [], [], [], [], [], [], [], [], [], [], [], [], [], [], [], [], []]) rfl rfl ?_
  refine b_aln (pc2 := 200) d_Mo_init_199 rfl rfl ?_
  refine b_bp (pc2 := 202) (x := Int32.ofNat 16) d_Mo_init_200 rfl rfl ?_
  refine c_newa (pc2 := 204) (n := 26) (a := b + 27) (t := 100) (q := 16) d_Mo_init_202 (Or.inl ⟨rfl, rfl⟩) (by decide) hb hp rfl rfl (fun q hq => by rw [u2_a _ _ (by omega)]; exact hz q (by omega)) (by decide) (by decide) rfl rfl ?_
  refine c_cv (tH2 := [(11, 62), (101, 37), (100, 16), (100, 2), (100, 2), (100, 2), (101, 2), (100, 2), (100, 2), (100, 16), (100, 384), (100, 16), (100, 2), (100, 2), (100, 2), (100, 96), (100, 2), (101, 2), (100, 32), (100, 2), (100, 24), (100, 40), (100, 10), (100, 10), (100, 10), (100, 160), (100, 16)]) (tP2 := [[none, none, some (b + 2), none, none, none, none, none, none, some (b + 3), some (b + 4), some (b + 5), some (b + 6), some (b + 7), some (b + 8), some (b + 9), some (b + 10), some (b + 11), some (b + 12), some (b + 13), some (b + 14), some (b + 15), some (b + 16), some (b + 17), some (b + 18), some (b + 19), some (b + 20), none, some (b + 21), none, some (b + 22), none, some (b + 23), some (b + 24), some (b + 25), some (b + 26)], [], [], [], [], [], [], [], [], [], [], [], [], [], [], [], [], [], [], [], [], [], [], [], [], [], []]) rfl rfl ?_
  refine c_putR (pc2 := 207) (q := 0) (a := b + 1) d_Mo_init_204 q_11_90 hb hp rfl (Nat.le_of_ble_eq_true rfl) (by decide) (Or.inr ⟨rfl, rfl⟩) rfl rfl rfl ?_
  refine c_cv (tH2 := [(11, 62), (101, 37), (100, 16), (100, 2), (100, 2), (100, 2), (101, 2), (100, 2), (100, 2), (100, 16), (100, 384), (100, 16), (100, 2), (100, 2), (100, 2), (100, 96), (100, 2), (101, 2), (100, 32), (100, 2), (100, 24), (100, 40), (100, 10), (100, 10), (100, 10), (100, 160), (100, 16)]) (tP2 := [[none, none, some (b + 2), none, none, none, none, none, none, some (b + 3), some (b + 4), some (b + 5), some (b + 6), some (b + 7), some (b + 8), some (b + 9), some (b + 10), some (b + 11), some (b + 12), some (b + 13), some (b + 14), some (b + 15), some (b + 16), some (b + 17), some (b + 18), some (b + 19), some (b + 20), none, some (b + 21), none, some (b + 22), none, some (b + 23), some (b + 24), some (b + 25), some (b + 26), some (b + 27)], [], [], [], [], [], [], [], [], [], [], [], [], [], [], [], [], [], [], [], [], [], [], [], [], [], []]) rfl rfl ?_
  refine b_aln (pc2 := 208) d_Mo_init_207 rfl rfl ?_
  refine b_bp (pc2 := 210) (x := Int32.ofNat 8) d_Mo_init_208 rfl rfl ?_
  refine b_pi (pc2 := 213) d_Mo_init_210 q_11_93 (show _ from hLS_sh (i := 0) hb rfl) (by decide) (Or.inl (by decide)) (Or.inl rfl) (bw_rc0 _) rfl ?_
  refine b_aln (pc2 := 214) d_Mo_init_213 rfl rfl ?_
  refine b_ic (pc2 := 215) (x := Int32.ofNat 4) d_Mo_init_214 rfl rfl ?_
  refine c_newa (pc2 := 217) (n := 27) (a := b + 28) (t := 100) (q := 4) d_Mo_init_215 (Or.inl ⟨rfl, rfl⟩) (by decide) hb hp rfl rfl (fun q hq => by rw [u2_a _ _ (by omega), u2_a _ _ (by omega)]; exact hz q (by omega)) (by decide) (by decide) rfl rfl ?_
  refine c_cv (tH2 := [(11, 62), (101, 37), (100, 16), (100, 2), (100, 2), (100, 2), (101, 2), (100, 2), (100, 2), (100, 16), (100, 384), (100, 16), (100, 2), (100, 2), (100, 2), (100, 96), (100, 2), (101, 2), (100, 32), (100, 2), (100, 24), (100, 40), (100, 10), (100, 10), (100, 10), (100, 160), (100, 16), (100, 4)]) (tP2 := [[none, none, some (b + 2), none, none, none, none, none, none, some (b + 3), some (b + 4), some (b + 5), some (b + 6), some (b + 7), some (b + 8), some (b + 9), some (b + 10), some (b + 11), some (b + 12), some (b + 13), some (b + 14), some (b + 15), some (b + 16), some (b + 17), some (b + 18), some (b + 19), some (b + 20), none, some (b + 21), none, some (b + 22), none, some (b + 23), some (b + 24), some (b + 25), some (b + 26), some (b + 27)], [], [], [], [], [], [], [], [], [], [], [], [], [], [], [], [], [], [], [], [], [], [], [], [], [], [], []]) rfl rfl ?_
  refine c_putR (pc2 := 220) (q := 0) (a := b + 1) d_Mo_init_217 q_11_96 hb hp rfl (Nat.le_of_ble_eq_true rfl) (by decide) (Or.inr ⟨rfl, rfl⟩) rfl rfl rfl ?_
  refine c_cv (tH2 := [(11, 62), (101, 37), (100, 16), (100, 2), (100, 2), (100, 2), (101, 2), (100, 2), (100, 2), (100, 16), (100, 384), (100, 16), (100, 2), (100, 2), (100, 2), (100, 96), (100, 2), (101, 2), (100, 32), (100, 2), (100, 24), (100, 40), (100, 10), (100, 10), (100, 10), (100, 160), (100, 16), (100, 4)]) (tP2 := [[none, none, some (b + 2), none, none, none, none, none, none, some (b + 3), some (b + 4), some (b + 5), some (b + 6), some (b + 7), some (b + 8), some (b + 9), some (b + 10), some (b + 11), some (b + 12), some (b + 13), some (b + 14), some (b + 15), some (b + 16), some (b + 17), some (b + 18), some (b + 19), some (b + 20), none, some (b + 21), none, some (b + 22), none, some (b + 23), some (b + 24), some (b + 25), some (b + 26), some (b + 27), none, none, none, some (b + 28)], [], [], [], [], [], [], [], [], [], [], [], [], [], [], [], [], [], [], [], [], [], [], [], [], [], [], []]) rfl rfl ?_
  refine b_aln (pc2 := 221) d_Mo_init_220 rfl rfl ?_
  refine b_ic (pc2 := 222) (x := Int32.ofNat 4) d_Mo_init_221 rfl rfl ?_
  refine c_newa (pc2 := 224) (n := 28) (a := b + 29) (t := 100) (q := 4) d_Mo_init_222 (Or.inl ⟨rfl, rfl⟩) (by decide) hb hp rfl rfl (fun q hq => by rw [u2_a _ _ (by omega), u2_a _ _ (by omega)]; exact hz q (by omega)) (by decide) (by decide) rfl rfl ?_
  refine c_cv (tH2 := [(11, 62), (101, 37), (100, 16), (100, 2), (100, 2), (100, 2), (101, 2), (100, 2), (100, 2), (100, 16), (100, 384), (100, 16), (100, 2), (100, 2), (100, 2), (100, 96), (100, 2), (101, 2), (100, 32), (100, 2), (100, 24), (100, 40), (100, 10), (100, 10), (100, 10), (100, 160), (100, 16), (100, 4), (100, 4)]) (tP2 := [[none, none, some (b + 2), none, none, none, none, none, none, some (b + 3), some (b + 4), some (b + 5), some (b + 6), some (b + 7), some (b + 8), some (b + 9), some (b + 10), some (b + 11), some (b + 12), some (b + 13), some (b + 14), some (b + 15), some (b + 16), some (b + 17), some (b + 18), some (b + 19), some (b + 20), none, some (b + 21), none, some (b + 22), none, some (b + 23), some (b + 24), some (b + 25), some (b + 26), some (b + 27), none, none, none, some (b + 28)], [], [], [], [], [], [], [], [], [], [], [], [], [], [], [], [], [], [], [], [], [], [], [], [], [], [], [], []]) rfl rfl ?_
  refine c_putR (pc2 := 227) (q := 0) (a := b + 1) d_Mo_init_224 q_11_99 hb hp rfl (Nat.le_of_ble_eq_true rfl) (by decide) (Or.inr ⟨rfl, rfl⟩) rfl rfl rfl ?_
  refine c_cv (tH2 := [(11, 62), (101, 37), (100, 16), (100, 2), (100, 2), (100, 2), (101, 2), (100, 2), (100, 2), (100, 16), (100, 384), (100, 16), (100, 2), (100, 2), (100, 2), (100, 96), (100, 2), (101, 2), (100, 32), (100, 2), (100, 24), (100, 40), (100, 10), (100, 10), (100, 10), (100, 160), (100, 16), (100, 4), (100, 4)]) (tP2 := [[none, none, some (b + 2), none, none, none, none, none, none, some (b + 3), some (b + 4), some (b + 5), some (b + 6), some (b + 7), some (b + 8), some (b + 9), some (b + 10), some (b + 11), some (b + 12), some (b + 13), some (b + 14), some (b + 15), some (b + 16), some (b + 17), some (b + 18), some (b + 19), some (b + 20), none, some (b + 21), none, some (b + 22), none, some (b + 23), some (b + 24), some (b + 25), some (b + 26), some (b + 27), none, none, none, some (b + 28), some (b + 29)], [], [], [], [], [], [], [], [], [], [], [], [], [], [], [], [], [], [], [], [], [], [], [], [], [], [], [], []]) rfl rfl ?_
  refine b_aln (pc2 := 228) d_Mo_init_227 rfl rfl ?_
  refine b_ic (pc2 := 229) (x := Int32.ofNat 4) d_Mo_init_228 rfl rfl ?_
  refine c_newa (pc2 := 231) (n := 29) (a := b + 30) (t := 100) (q := 4) d_Mo_init_229 (Or.inl ⟨rfl, rfl⟩) (by decide) hb hp rfl rfl (fun q hq => by rw [u2_a _ _ (by omega), u2_a _ _ (by omega)]; exact hz q (by omega)) (by decide) (by decide) rfl rfl ?_
  refine c_cv (tH2 := [(11, 62), (101, 37), (100, 16), (100, 2), (100, 2), (100, 2), (101, 2), (100, 2), (100, 2), (100, 16), (100, 384), (100, 16), (100, 2), (100, 2), (100, 2), (100, 96), (100, 2), (101, 2), (100, 32), (100, 2), (100, 24), (100, 40), (100, 10), (100, 10), (100, 10), (100, 160), (100, 16), (100, 4), (100, 4), (100, 4)]) (tP2 := [[none, none, some (b + 2), none, none, none, none, none, none, some (b + 3), some (b + 4), some (b + 5), some (b + 6), some (b + 7), some (b + 8), some (b + 9), some (b + 10), some (b + 11), some (b + 12), some (b + 13), some (b + 14), some (b + 15), some (b + 16), some (b + 17), some (b + 18), some (b + 19), some (b + 20), none, some (b + 21), none, some (b + 22), none, some (b + 23), some (b + 24), some (b + 25), some (b + 26), some (b + 27), none, none, none, some (b + 28), some (b + 29)], [], [], [], [], [], [], [], [], [], [], [], [], [], [], [], [], [], [], [], [], [], [], [], [], [], [], [], [], []]) rfl rfl ?_
  refine c_putR (pc2 := 234) (q := 0) (a := b + 1) d_Mo_init_231 q_11_102 hb hp rfl (Nat.le_of_ble_eq_true rfl) (by decide) (Or.inr ⟨rfl, rfl⟩) rfl rfl rfl ?_
  refine c_cv (tH2 := [(11, 62), (101, 37), (100, 16), (100, 2), (100, 2), (100, 2), (101, 2), (100, 2), (100, 2), (100, 16), (100, 384), (100, 16), (100, 2), (100, 2), (100, 2), (100, 96), (100, 2), (101, 2), (100, 32), (100, 2), (100, 24), (100, 40), (100, 10), (100, 10), (100, 10), (100, 160), (100, 16), (100, 4), (100, 4), (100, 4)]) (tP2 := [[none, none, some (b + 2), none, none, none, none, none, none, some (b + 3), some (b + 4), some (b + 5), some (b + 6), some (b + 7), some (b + 8), some (b + 9), some (b + 10), some (b + 11), some (b + 12), some (b + 13), some (b + 14), some (b + 15), some (b + 16), some (b + 17), some (b + 18), some (b + 19), some (b + 20), none, some (b + 21), none, some (b + 22), none, some (b + 23), some (b + 24), some (b + 25), some (b + 26), some (b + 27), none, none, none, some (b + 28), some (b + 29), some (b + 30)], [], [], [], [], [], [], [], [], [], [], [], [], [], [], [], [], [], [], [], [], [], [], [], [], [], [], [], [], []]) rfl rfl ?_
  refine b_aln (pc2 := 235) d_Mo_init_234 rfl rfl ?_
  refine b_bp (pc2 := 237) (x := Int32.ofNat 80) d_Mo_init_235 rfl rfl ?_
  refine c_newa (pc2 := 239) (n := 30) (a := b + 31) (t := 100) (q := 80) d_Mo_init_237 (Or.inl ⟨rfl, rfl⟩) (by decide) hb hp rfl rfl (fun q hq => by rw [u2_a _ _ (by omega), u2_a _ _ (by omega)]; exact hz q (by omega)) (by decide) (by decide) rfl rfl ?_
  refine c_cv (tH2 := [(11, 62), (101, 37), (100, 16), (100, 2), (100, 2), (100, 2), (101, 2), (100, 2), (100, 2), (100, 16), (100, 384), (100, 16), (100, 2), (100, 2), (100, 2), (100, 96), (100, 2), (101, 2), (100, 32), (100, 2), (100, 24), (100, 40), (100, 10), (100, 10), (100, 10), (100, 160), (100, 16), (100, 4), (100, 4), (100, 4), (100, 80)]) (tP2 := [[none, none, some (b + 2), none, none, none, none, none, none, some (b + 3), some (b + 4), some (b + 5), some (b + 6), some (b + 7), some (b + 8), some (b + 9), some (b + 10), some (b + 11), some (b + 12), some (b + 13), some (b + 14), some (b + 15), some (b + 16), some (b + 17), some (b + 18), some (b + 19), some (b + 20), none, some (b + 21), none, some (b + 22), none, some (b + 23), some (b + 24), some (b + 25), some (b + 26), some (b + 27), none, none, none, some (b + 28), some (b + 29), some (b + 30)], [], [], [], [], [], [], [], [], [], [], [], [], [], [], [], [], [], [], [], [], [], [], [], [], [], [], [], [], [], []]) rfl rfl ?_
  refine c_putR (pc2 := 242) (q := 0) (a := b + 1) d_Mo_init_239 q_11_105 hb hp rfl (Nat.le_of_ble_eq_true rfl) (by decide) (Or.inr ⟨rfl, rfl⟩) rfl rfl rfl ?_
  refine c_cv (tH2 := [(11, 62), (101, 37), (100, 16), (100, 2), (100, 2), (100, 2), (101, 2), (100, 2), (100, 2), (100, 16), (100, 384), (100, 16), (100, 2), (100, 2), (100, 2), (100, 96), (100, 2), (101, 2), (100, 32), (100, 2), (100, 24), (100, 40), (100, 10), (100, 10), (100, 10), (100, 160), (100, 16), (100, 4), (100, 4), (100, 4), (100, 80)]) (tP2 := [[none, none, some (b + 2), none, none, none, none, none, none, some (b + 3), some (b + 4), some (b + 5), some (b + 6), some (b + 7), some (b + 8), some (b + 9), some (b + 10), some (b + 11), some (b + 12), some (b + 13), some (b + 14), some (b + 15), some (b + 16), some (b + 17), some (b + 18), some (b + 19), some (b + 20), none, some (b + 21), none, some (b + 22), none, some (b + 23), some (b + 24), some (b + 25), some (b + 26), some (b + 27), none, none, none, some (b + 28), some (b + 29), some (b + 30), some (b + 31)], [], [], [], [], [], [], [], [], [], [], [], [], [], [], [], [], [], [], [], [], [], [], [], [], [], [], [], [], [], []]) rfl rfl ?_
  refine b_aln (pc2 := 243) d_Mo_init_242 rfl rfl ?_
  refine b_bp (pc2 := 245) (x := Int32.ofNat 8) d_Mo_init_243 rfl rfl ?_
  refine b_pi (pc2 := 248) d_Mo_init_245 q_11_108 (show _ from hLS_sh (i := 0) hb rfl) (by decide) (Or.inl (by decide)) (Or.inl rfl) (bw_rc0 _) rfl ?_
  refine b_aln (pc2 := 249) d_Mo_init_248 rfl rfl ?_
  refine b_ic (pc2 := 250) (x := Int32.ofNat 1) d_Mo_init_249 rfl rfl ?_
  refine b_pi (pc2 := 253) d_Mo_init_250 q_11_111 (show _ from hLS_sh (i := 0) hb rfl) (by decide) (Or.inl (by decide)) (Or.inl rfl) (bw_rc0 _) rfl ?_
  refine b_aln (pc2 := 254) d_Mo_init_253 rfl rfl ?_
  refine b_bp (pc2 := 256) (x := Int32.ofNat 24) d_Mo_init_254 rfl rfl ?_
  refine c_newa (pc2 := 258) (n := 31) (a := b + 32) (t := 100) (q := 24) d_Mo_init_256 (Or.inl ⟨rfl, rfl⟩) (by decide) hb hp rfl rfl (fun q hq => by rw [u2_a _ _ (by omega), u2_a _ _ (by omega), u2_a _ _ (by omega), u2_a _ _ (by omega)]; exact hz q (by omega)) (by decide) (by decide) rfl rfl ?_
  refine c_cv (tH2 := [(11, 62), (101, 37), (100, 16), (100, 2), (100, 2), (100, 2), (101, 2), (100, 2), (100, 2), (100, 16), (100, 384), (100, 16), (100, 2), (100, 2), (100, 2), (100, 96), (100, 2), (101, 2), (100, 32), (100, 2), (100, 24), (100, 40), (100, 10), (100, 10), (100, 10), (100, 160), (100, 16), (100, 4), (100, 4), (100, 4), (100, 80), (100, 24)]) (tP2 := [[none, none, some (b + 2), none, none, none, none, none, none, some (b + 3), some (b + 4), some (b + 5), some (b + 6), some (b + 7), some (b + 8), some (b + 9), some (b + 10), some (b + 11), some (b + 12), some (b + 13), some (b + 14), some (b + 15), some (b + 16), some (b + 17), some (b + 18), some (b + 19), some (b + 20), none, some (b + 21), none, some (b + 22), none, some (b + 23), some (b + 24), some (b + 25), some (b + 26), some (b + 27), none, none, none, some (b + 28), some (b + 29), some (b + 30), some (b + 31)], [], [], [], [], [], [], [], [], [], [], [], [], [], [], [], [], [], [], [], [], [], [], [], [], [], [], [], [], [], [], []]) rfl rfl ?_
  refine c_putR (pc2 := 261) (q := 0) (a := b + 1) d_Mo_init_258 q_11_114 hb hp rfl (Nat.le_of_ble_eq_true rfl) (by decide) (Or.inr ⟨rfl, rfl⟩) rfl rfl rfl ?_
  refine c_cv (tH2 := [(11, 62), (101, 37), (100, 16), (100, 2), (100, 2), (100, 2), (101, 2), (100, 2), (100, 2), (100, 16), (100, 384), (100, 16), (100, 2), (100, 2), (100, 2), (100, 96), (100, 2), (101, 2), (100, 32), (100, 2), (100, 24), (100, 40), (100, 10), (100, 10), (100, 10), (100, 160), (100, 16), (100, 4), (100, 4), (100, 4), (100, 80), (100, 24)]) (tP2 := [[none, none, some (b + 2), none, none, none, none, none, none, some (b + 3), some (b + 4), some (b + 5), some (b + 6), some (b + 7), some (b + 8), some (b + 9), some (b + 10), some (b + 11), some (b + 12), some (b + 13), some (b + 14), some (b + 15), some (b + 16), some (b + 17), some (b + 18), some (b + 19), some (b + 20), none, some (b + 21), none, some (b + 22), none, some (b + 23), some (b + 24), some (b + 25), some (b + 26), some (b + 27), none, none, none, some (b + 28), some (b + 29), some (b + 30), some (b + 31), none, none, none, none, none, none, none, some (b + 32)], [], [], [], [], [], [], [], [], [], [], [], [], [], [], [], [], [], [], [], [], [], [], [], [], [], [], [], [], [], [], []]) rfl rfl ?_
  refine b_aln (pc2 := 262) d_Mo_init_261 rfl rfl ?_
  refine b_bp (pc2 := 264) (x := Int32.ofNat 64) d_Mo_init_262 rfl rfl ?_
  refine c_newa (pc2 := 266) (n := 32) (a := b + 33) (t := 100) (q := 64) d_Mo_init_264 (Or.inl ⟨rfl, rfl⟩) (by decide) hb hp rfl rfl (fun q hq => by rw [u2_a _ _ (by omega), u2_a _ _ (by omega), u2_a _ _ (by omega), u2_a _ _ (by omega)]; exact hz q (by omega)) (by decide) (by decide) rfl rfl ?_
  refine c_cv (tH2 := [(11, 62), (101, 37), (100, 16), (100, 2), (100, 2), (100, 2), (101, 2), (100, 2), (100, 2), (100, 16), (100, 384), (100, 16), (100, 2), (100, 2), (100, 2), (100, 96), (100, 2), (101, 2), (100, 32), (100, 2), (100, 24), (100, 40), (100, 10), (100, 10), (100, 10), (100, 160), (100, 16), (100, 4), (100, 4), (100, 4), (100, 80), (100, 24), (100, 64)]) (tP2 := [[none, none, some (b + 2), none, none, none, none, none, none, some (b + 3), some (b + 4), some (b + 5), some (b + 6), some (b + 7), some (b + 8), some (b + 9), some (b + 10), some (b + 11), some (b + 12), some (b + 13), some (b + 14), some (b + 15), some (b + 16), some (b + 17), some (b + 18), some (b + 19), some (b + 20), none, some (b + 21), none, some (b + 22), none, some (b + 23), some (b + 24), some (b + 25), some (b + 26), some (b + 27), none, none, none, some (b + 28), some (b + 29), some (b + 30), some (b + 31), none, none, none, none, none, none, none, some (b + 32)], [], [], [], [], [], [], [], [], [], [], [], [], [], [], [], [], [], [], [], [], [], [], [], [], [], [], [], [], [], [], [], []]) rfl rfl ?_
  refine c_putR (pc2 := 269) (q := 0) (a := b + 1) d_Mo_init_266 q_11_117 hb hp rfl (Nat.le_of_ble_eq_true rfl) (by decide) (Or.inr ⟨rfl, rfl⟩) rfl rfl rfl ?_
  refine c_cv (tH2 := [(11, 62), (101, 37), (100, 16), (100, 2), (100, 2), (100, 2), (101, 2), (100, 2), (100, 2), (100, 16), (100, 384), (100, 16), (100, 2), (100, 2), (100, 2), (100, 96), (100, 2), (101, 2), (100, 32), (100, 2), (100, 24), (100, 40), (100, 10), (100, 10), (100, 10), (100, 160), (100, 16), (100, 4), (100, 4), (100, 4), (100, 80), (100, 24), (100, 64)]) (tP2 := [[none, none, some (b + 2), none, none, none, none, none, none, some (b + 3), some (b + 4), some (b + 5), some (b + 6), some (b + 7), some (b + 8), some (b + 9), some (b + 10), some (b + 11), some (b + 12), some (b + 13), some (b + 14), some (b + 15), some (b + 16), some (b + 17), some (b + 18), some (b + 19), some (b + 20), none, some (b + 21), none, some (b + 22), none, some (b + 23), some (b + 24), some (b + 25), some (b + 26), some (b + 27), none, none, none, some (b + 28), some (b + 29), some (b + 30), some (b + 31), none, none, none, none, none, none, none, some (b + 32), none, some (b + 33)], [], [], [], [], [], [], [], [], [], [], [], [], [], [], [], [], [], [], [], [], [], [], [], [], [], [], [], [], [], [], [], []]) rfl rfl ?_
  refine b_aln (pc2 := 270) d_Mo_init_269 rfl rfl ?_
  refine b_bp (pc2 := 272) (x := Int32.ofNat 8) d_Mo_init_270 rfl rfl ?_
  refine c_newa (pc2 := 274) (n := 33) (a := b + 34) (t := 100) (q := 8) d_Mo_init_272 (Or.inl ⟨rfl, rfl⟩) (by decide) hb hp rfl rfl (fun q hq => by rw [u2_a _ _ (by omega), u2_a _ _ (by omega), u2_a _ _ (by omega), u2_a _ _ (by omega)]; exact hz q (by omega)) (by decide) (by decide) rfl rfl ?_
  refine c_cv (tH2 := [(11, 62), (101, 37), (100, 16), (100, 2), (100, 2), (100, 2), (101, 2), (100, 2), (100, 2), (100, 16), (100, 384), (100, 16), (100, 2), (100, 2), (100, 2), (100, 96), (100, 2), (101, 2), (100, 32), (100, 2), (100, 24), (100, 40), (100, 10), (100, 10), (100, 10), (100, 160), (100, 16), (100, 4), (100, 4), (100, 4), (100, 80), (100, 24), (100, 64), (100, 8)]) (tP2 := [[none, none, some (b + 2), none, none, none, none, none, none, some (b + 3), some (b + 4), some (b + 5), some (b + 6), some (b + 7), some (b + 8), some (b + 9), some (b + 10), some (b + 11), some (b + 12), some (b + 13), some (b + 14), some (b + 15), some (b + 16), some (b + 17), some (b + 18), some (b + 19), some (b + 20), none, some (b + 21), none, some (b + 22), none, some (b + 23), some (b + 24), some (b + 25), some (b + 26), some (b + 27), none, none, none, some (b + 28), some (b + 29), some (b + 30), some (b + 31), none, none, none, none, none, none, none, some (b + 32), none, some (b + 33)], [], [], [], [], [], [], [], [], [], [], [], [], [], [], [], [], [], [], [], [], [], [], [], [], [], [], [], [], [], [], [], [], []]) rfl rfl ?_
  refine c_putR (pc2 := 277) (q := 0) (a := b + 1) d_Mo_init_274 q_11_120 hb hp rfl (Nat.le_of_ble_eq_true rfl) (by decide) (Or.inr ⟨rfl, rfl⟩) rfl rfl rfl ?_
  refine c_cv (tH2 := [(11, 62), (101, 37), (100, 16), (100, 2), (100, 2), (100, 2), (101, 2), (100, 2), (100, 2), (100, 16), (100, 384), (100, 16), (100, 2), (100, 2), (100, 2), (100, 96), (100, 2), (101, 2), (100, 32), (100, 2), (100, 24), (100, 40), (100, 10), (100, 10), (100, 10), (100, 160), (100, 16), (100, 4), (100, 4), (100, 4), (100, 80), (100, 24), (100, 64), (100, 8)]) (tP2 := [[none, none, some (b + 2), none, none, none, none, none, none, some (b + 3), some (b + 4), some (b + 5), some (b + 6), some (b + 7), some (b + 8), some (b + 9), some (b + 10), some (b + 11), some (b + 12), some (b + 13), some (b + 14), some (b + 15), some (b + 16), some (b + 17), some (b + 18), some (b + 19), some (b + 20), none, some (b + 21), none, some (b + 22), none, some (b + 23), some (b + 24), some (b + 25), some (b + 26), some (b + 27), none, none, none, some (b + 28), some (b + 29), some (b + 30), some (b + 31), none, none, none, none, none, none, none, some (b + 32), none, some (b + 33), none, none, some (b + 34)], [], [], [], [], [], [], [], [], [], [], [], [], [], [], [], [], [], [], [], [], [], [], [], [], [], [], [], [], [], [], [], [], []]) rfl rfl ?_
  refine b_aln (pc2 := 278) d_Mo_init_277 rfl rfl ?_
  refine b_ic (pc2 := 279) (x := Int32.ofNat 4) d_Mo_init_278 rfl rfl ?_
  refine c_newa (pc2 := 281) (n := 34) (a := b + 35) (t := 100) (q := 4) d_Mo_init_279 (Or.inl ⟨rfl, rfl⟩) (by decide) hb hp rfl rfl (fun q hq => by rw [u2_a _ _ (by omega), u2_a _ _ (by omega), u2_a _ _ (by omega), u2_a _ _ (by omega)]; exact hz q (by omega)) (by decide) (by decide) rfl rfl ?_
  refine c_cv (tH2 := [(11, 62), (101, 37), (100, 16), (100, 2), (100, 2), (100, 2), (101, 2), (100, 2), (100, 2), (100, 16), (100, 384), (100, 16), (100, 2), (100, 2), (100, 2), (100, 96), (100, 2), (101, 2), (100, 32), (100, 2), (100, 24), (100, 40), (100, 10), (100, 10), (100, 10), (100, 160), (100, 16), (100, 4), (100, 4), (100, 4), (100, 80), (100, 24), (100, 64), (100, 8), (100, 4)]) (tP2 := [[none, none, some (b + 2), none, none, none, none, none, none, some (b + 3), some (b + 4), some (b + 5), some (b + 6), some (b + 7), some (b + 8), some (b + 9), some (b + 10), some (b + 11), some (b + 12), some (b + 13), some (b + 14), some (b + 15), some (b + 16), some (b + 17), some (b + 18), some (b + 19), some (b + 20), none, some (b + 21), none, some (b + 22), none, some (b + 23), some (b + 24), some (b + 25), some (b + 26), some (b + 27), none, none, none, some (b + 28), some (b + 29), some (b + 30), some (b + 31), none, none, none, none, none, none, none, some (b + 32), none, some (b + 33), none, none, some (b + 34)], [], [], [], [], [], [], [], [], [], [], [], [], [], [], [], [], [], [], [], [], [], [], [], [], [], [], [], [], [], [], [], [], [], []]) rfl rfl ?_
  refine c_putR (pc2 := 284) (q := 0) (a := b + 1) d_Mo_init_281 q_11_123 hb hp rfl (Nat.le_of_ble_eq_true rfl) (by decide) (Or.inr ⟨rfl, rfl⟩) rfl rfl rfl ?_
  refine c_cv (tH2 := [(11, 62), (101, 37), (100, 16), (100, 2), (100, 2), (100, 2), (101, 2), (100, 2), (100, 2), (100, 16), (100, 384), (100, 16), (100, 2), (100, 2), (100, 2), (100, 96), (100, 2), (101, 2), (100, 32), (100, 2), (100, 24), (100, 40), (100, 10), (100, 10), (100, 10), (100, 160), (100, 16), (100, 4), (100, 4), (100, 4), (100, 80), (100, 24), (100, 64), (100, 8), (100, 4)]) (tP2 := [[none, none, some (b + 2), none, none, none, none, none, none, some (b + 3), some (b + 4), some (b + 5), some (b + 6), some (b + 7), some (b + 8), some (b + 9), some (b + 10), some (b + 11), some (b + 12), some (b + 13), some (b + 14), some (b + 15), some (b + 16), some (b + 17), some (b + 18), some (b + 19), some (b + 20), none, some (b + 21), none, some (b + 22), none, some (b + 23), some (b + 24), some (b + 25), some (b + 26), some (b + 27), none, none, none, some (b + 28), some (b + 29), some (b + 30), some (b + 31), none, none, none, none, none, none, none, some (b + 32), none, some (b + 33), none, none, some (b + 34), none, none, none, some (b + 35)], [], [], [], [], [], [], [], [], [], [], [], [], [], [], [], [], [], [], [], [], [], [], [], [], [], [], [], [], [], [], [], [], [], []]) rfl rfl ?_
  refine b_aln (pc2 := 285) d_Mo_init_284 rfl rfl ?_
  refine b_bp (pc2 := 287) (x := Int32.ofNat 96) d_Mo_init_285 rfl rfl ?_
  refine c_newa (pc2 := 289) (n := 35) (a := b + 36) (t := 100) (q := 96) d_Mo_init_287 (Or.inl ⟨rfl, rfl⟩) (by decide) hb hp rfl rfl (fun q hq => by rw [u2_a _ _ (by omega), u2_a _ _ (by omega), u2_a _ _ (by omega), u2_a _ _ (by omega)]; exact hz q (by omega)) (by decide) (by decide) rfl rfl ?_
  refine c_cv (tH2 := [(11, 62), (101, 37), (100, 16), (100, 2), (100, 2), (100, 2), (101, 2), (100, 2), (100, 2), (100, 16), (100, 384), (100, 16), (100, 2), (100, 2), (100, 2), (100, 96), (100, 2), (101, 2), (100, 32), (100, 2), (100, 24), (100, 40), (100, 10), (100, 10), (100, 10), (100, 160), (100, 16), (100, 4), (100, 4), (100, 4), (100, 80), (100, 24), (100, 64), (100, 8), (100, 4), (100, 96)]) (tP2 := [[none, none, some (b + 2), none, none, none, none, none, none, some (b + 3), some (b + 4), some (b + 5), some (b + 6), some (b + 7), some (b + 8), some (b + 9), some (b + 10), some (b + 11), some (b + 12), some (b + 13), some (b + 14), some (b + 15), some (b + 16), some (b + 17), some (b + 18), some (b + 19), some (b + 20), none, some (b + 21), none, some (b + 22), none, some (b + 23), some (b + 24), some (b + 25), some (b + 26), some (b + 27), none, none, none, some (b + 28), some (b + 29), some (b + 30), some (b + 31), none, none, none, none, none, none, none, some (b + 32), none, some (b + 33), none, none, some (b + 34), none, none, none, some (b + 35)], [], [], [], [], [], [], [], [], [], [], [], [], [], [], [], [], [], [], [], [], [], [], [], [], [], [], [], [], [], [], [], [], [], [], []]) rfl rfl ?_
  refine c_putR (pc2 := 292) (q := 0) (a := b + 1) d_Mo_init_289 q_11_126 hb hp rfl (Nat.le_of_ble_eq_true rfl) (by decide) (Or.inr ⟨rfl, rfl⟩) rfl rfl rfl ?_
  refine c_cv (tH2 := [(11, 62), (101, 37), (100, 16), (100, 2), (100, 2), (100, 2), (101, 2), (100, 2), (100, 2), (100, 16), (100, 384), (100, 16), (100, 2), (100, 2), (100, 2), (100, 96), (100, 2), (101, 2), (100, 32), (100, 2), (100, 24), (100, 40), (100, 10), (100, 10), (100, 10), (100, 160), (100, 16), (100, 4), (100, 4), (100, 4), (100, 80), (100, 24), (100, 64), (100, 8), (100, 4), (100, 96)]) (tP2 := [[none, none, some (b + 2), none, none, none, none, none, none, some (b + 3), some (b + 4), some (b + 5), some (b + 6), some (b + 7), some (b + 8), some (b + 9), some (b + 10), some (b + 11), some (b + 12), some (b + 13), some (b + 14), some (b + 15), some (b + 16), some (b + 17), some (b + 18), some (b + 19), some (b + 20), none, some (b + 21), none, some (b + 22), none, some (b + 23), some (b + 24), some (b + 25), some (b + 26), some (b + 27), none, none, none, some (b + 28), some (b + 29), some (b + 30), some (b + 31), none, none, none, none, none, none, none, some (b + 32), none, some (b + 33), none, none, some (b + 34), none, none, none, some (b + 35), some (b + 36)], [], [], [], [], [], [], [], [], [], [], [], [], [], [], [], [], [], [], [], [], [], [], [], [], [], [], [], [], [], [], [], [], [], [], []]) rfl rfl ?_
  refine b_iln (pc2 := 293) d_Mo_init_292 rfl rfl ?_
  refine b_bp (pc2 := 295) (x := Int32.ofNat 12) d_Mo_init_293 rfl rfl ?_
  refine b_rem (pc2 := 296) d_Mo_init_295 (by decide) rfl ?_
  refine b_is (pc2 := 298) (al2 := [(4, .int (rm12 h)), (0, _), (1, _), (2, _), (3, _)]) d_Mo_init_296 (by decide) rfl rfl ?_
  refine b_aln (pc2 := 299) d_Mo_init_298 rfl rfl ?_
  refine b_ic (pc2 := 300) (x := Int32.ofNat 5) d_Mo_init_299 rfl rfl ?_
  refine b_il (pc2 := 302) d_Mo_init_300 rfl rfl ?_
  have key := mo_hop (d := d) (N := N) (H := H) (P := P) (J := (am_u2 (am_u2 (am_u2 (am_u2 J (b + 1) 5 ((-1))) (b + 1) 37 (Int32.ofNat 8)) (b + 1) 44 (Int32.ofNat 8)) (b + 1) 47 (Int32.ofNat 1))) (W := fun _ => []) (hh := hh) (f := rm12 h) (h := h) hb hp (rfl : mk u a = mk u a) (by rw [u2_a _ _ (by omega), u2_a _ _ (by omega), u2_a _ _ (by omega), u2_a _ _ (by omega)]; exact hz _ (by omega)) (by rw [u2_k _ _ (by decide), u2_k _ _ (by decide), u2_k _ _ (by decide), u2_k _ _ (by decide), hz _ (by omega)])
  refine b_ifd (pc2 := 313) d_Mo_init_302 rfl rfl rfl rfl rfl (fun h302 => ?_) (fun h302 => ?_)
  · have e : rm12 h = Int32.ofNat hh := by
      rcases hr with ⟨q1, q2⟩ | ⟨q1, q2⟩
      · exact absurd h302 q1
      · exact q2
    refine b_il (pc2 := 315) d_Mo_init_313 rfl rfl ?_
    have key2 := key
    rw [← e] at key2
    exact key2
  · have e : rm12 h + Int32.ofNat 12 = Int32.ofNat hh := by
      rcases hr with ⟨q1, q2⟩ | ⟨q1, q2⟩
      · exact q2
      · exact absurd q1 h302
    refine b_il (pc2 := 307) d_Mo_init_305 rfl rfl ?_
    refine b_bp (pc2 := 309) (x := Int32.ofNat 12) d_Mo_init_307 rfl rfl ?_
    refine b_pure (pc2 := 310) d_Mo_init_309 rfl rfl rfl ?_
    refine b_go (pc2 := 315) d_Mo_init_310 rfl ?_
    rw [e]
    exact key
