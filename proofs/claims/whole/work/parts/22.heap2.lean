/-! Part 22: rows of stores into arrays, of lengths, of new cells, of arraycopy -/
section AMH2
variable {p : Program} {l : Launch} {e : Env} {R : Room} {s : State} {m : MethodId} {args : Array Value} {below : List Frame} {meth : Method} {c : Code} {H : Heap} {locs : List Loc} {cells slots : Nat} {Q : State → Prop}
variable {cc : ByteArray} {pc : Nat} {ls : Array Slot} {rest : List Value} {b0 b L : Nat} {xs : Nat → Int32} {G : am_G} {cl : List vw_C} {own : Nat → String} {WS : List Cond} {D : va_G} {cA : Nat → ClassId} {h : am_H} {o idx ci fi a : Nat}
theorem am_r_ast (hx : p.tables.exec = Jvm.exec) (hb : c.code = cc) (hY : am_Y G cl own D cA b0 b L xs s) (hac : ∀ t, (t = 103 ∨ t = 104) → am_ok G cl own WS (am_ac G t)) (hX : am_X G cl D cA b0 b L xs h H) (hS : va_S (fun q => b ≤ q) s.heap H locs) {ins : Instr} {v : Value} {i : Int32} {f : am_H → Prop} (hh : am_ast G ins h v i a f) (hd : decode cc pc = .ok (ins, 1))
    (k : ∀ (h' : am_H) (H1 : Heap) (locs1 : List Loc), f h' → am_X G cl D cA b0 b L xs h' H1 → va_S (fun q => b ≤ q) s.heap H1 locs1 → W p l e R s m args below meth c H1 locs1 cells slots Q (F0 m (pc + 1) ls rest)) : W p l e R s m args below meth c H locs cells slots Q (F0 m pc ls (am_tv b0 b v :: .int i :: .ref (am_ad b0 b a) :: rest)) := by
  obtain ⟨⟨t, N⟩, hs, hin, hh2⟩ := am_so_s hh
  clear hh
  have hh := hh2
  clear hh2
  · dsimp only at hin hh
    split at hh
    · rename_i x
      obtain ⟨ht, hf⟩ := hh
      subst ht
      obtain ⟨h0, hn, hat⟩ := am_obj_at hX hs (by decide)
      rw [am_ce_i hs (by decide) (by decide)] at hat
      refine W.iast hx hb (hX.1 (a - 1) _ hat) ((hY.1.2 0 _ rfl).1 N (fun j => .int (am_I h a j))) (fun q => by cases q) (by show ¬ (i < 0 ∨ (arrV _ _ _).slots.size ≤ _); rw [arrV_size]; exact hin) rfl rfl hd fun H1 e1 z oq => ?_
      refine k _ H1 _ hf (am_X_of (v := .inl (cA 100, N, .inl (am_u2 (am_I h) a i.toNatClampNeg x a))) hX h0 hn rfl rfl rfl (am_u2_ne _ _ _ (Ne.symm h0)) (am_ce_i (h := am_setI h (am_u2 (am_I h) a i.toNatClampNeg x)) hs (by decide) (by decide)) (fun y hy => am_ce_eq rfl rfl (am_u2_ne _ _ _ hy) rfl) (hX.1.set am_wl_D hat ?_ oq) z oq) (hS.put z oq (am_wl_D.2 _ _ hat))
      show H1[am_ad b0 b a]? = some (vp_cell _ _)
      rw [e1, am_u2_eq]
      dsimp only
      rw [vp_cell_i, vp_cell_i, arrV_store]
      congr 2
      funext q
      by_cases hq : q = i.toNatClampNeg
      · subst hq
        simp [updV]
      · simp [updV, hq]
    · rename_i x
      obtain ⟨ht, hf⟩ := hh
      subst ht
      obtain ⟨h0, hn, hat⟩ := am_obj_at hX hs (by decide)
      rw [am_ce_i hs (by decide) (by decide)] at hat
      refine W.zast hx hb (hX.1 (a - 1) _ hat) ((hY.1.2 1 _ rfl).1 N (fun j => .int (am_I h a j))) (fun q => by cases q) (by show ¬ (i < 0 ∨ (arrV _ _ _).slots.size ≤ _); rw [arrV_size]; exact hin) rfl rfl hd fun H1 e1 z oq => ?_
      refine k _ H1 _ hf (am_X_of (v := .inl (cA 101, N, .inl (am_u2 (am_I h) a i.toNatClampNeg (vp_nar .boolean x) a))) hX h0 hn rfl rfl rfl (am_u2_ne _ _ _ (Ne.symm h0)) (am_ce_i (h := am_setI h (am_u2 (am_I h) a i.toNatClampNeg (vp_nar .boolean x))) hs (by decide) (by decide)) (fun y hy => am_ce_eq rfl rfl (am_u2_ne _ _ _ hy) rfl) (hX.1.set am_wl_D hat ?_ oq) z oq) (hS.put z oq (am_wl_D.2 _ _ hat))
      show H1[am_ad b0 b a]? = some (vp_cell _ _)
      rw [e1, am_u2_eq]
      dsimp only
      rw [vp_cell_i, vp_cell_i, arrV_store]
      congr 2
      funext q
      by_cases hq : q = i.toNatClampNeg
      · subst hq
        simp [updV, vp_nar]
        try rfl
      · simp [updV, hq]
    · rename_i x
      obtain ⟨ht, hf⟩ := hh
      subst ht
      obtain ⟨h0, hn, hat⟩ := am_obj_at hX hs (by decide)
      rw [am_ce_l hs] at hat
      refine W.last hx hb (hX.1 (a - 1) _ hat) ((hY.1.2 2 _ rfl).1 N (fun j => .long (am_L h a j))) (fun q => by cases q) (by show ¬ (i < 0 ∨ (arrV _ _ _).slots.size ≤ _); rw [arrV_size]; exact hin) rfl rfl hd fun H1 e1 z oq => ?_
      refine k _ H1 _ hf (am_X_of (v := .inl (cA 102, N, .inr (.inl (am_u2 (am_L h) a i.toNatClampNeg x a)))) hX h0 hn rfl rfl rfl rfl (am_ce_l (h := am_setL h (am_u2 (am_L h) a i.toNatClampNeg x)) hs) (fun y hy => am_ce_eq rfl rfl rfl (am_u2_ne _ _ _ hy)) (hX.1.set am_wl_D hat ?_ oq) z oq) (hS.put z oq (am_wl_D.2 _ _ hat))
      show H1[am_ad b0 b a]? = some (vp_cell _ _)
      rw [e1, am_u2_eq]
      dsimp only
      rw [vp_cell_l, vp_cell_l, arrV_store]
      congr 2
      funext q
      by_cases hq : q = i.toNatClampNeg
      · subst hq
        simp [updV]
      · simp [updV, hq]
    · rename_i j
      obtain ⟨ht, hsj, hlt, hf⟩ := hh
      obtain ⟨h0, hn, hat⟩ := am_obj_at hX hs (by omega)
      rw [am_ce_q hs (by omega)] at hat
      obtain ⟨-, -, hatj⟩ := am_obj_at hX hsj (by omega)
      rw [am_ce_o hsj hlt] at hatj
      obtain ⟨T, ty, hc, -⟩ := hac t ht
      obtain ⟨r', hr', cellV, g1, g2, g3, -⟩ := hX.1 (j - 1) _ hatj
      have hcls := (hY.1.1 (am_ac G t) _ hc).2
      have hRA : ∃ n : Nat, (am_tys cl G own cA)[n]? = some (cA t, FieldType.object (own (am_ac G t))) := by
        rcases ht with ht | ht <;> subst ht
        · exact ⟨3, rfl⟩
        · exact ⟨4, rfl⟩
      obtain ⟨n, hRA⟩ := hRA
      obtain ⟨kA, comp, k1, k2, k3, -⟩ := (hY.1.2 n _ hRA).2
      have hcomp : comp = D.1 (am_ac G t) := Option.some.inj (k3.symm.trans hcls.1)
      subst hcomp
      obtain ⟨kC, hkC, -⟩ := hcls.2
      have h9 : ¬ i < 0 := fun q => hin (Or.inl q)
      have hlt9 : i.toNatClampNeg < N := Nat.not_le.mp fun q => hin (Or.inr q)
      refine W.aast hx hb (hX.1 (a - 1) _ hat) (fun q h => by cases h) (fun h => by cases h) k1 k2 rfl hkC ⟨h9, by show _ < (arrV _ _ _).slots.size; rw [arrV_size]; exact hlt9⟩ g1 (fun q h => by rw [g3] at h; cases h) (by rw [g2]; exact hkC) (by rw [g2]; exact va_assign hcls) rfl rfl hd fun H1 e1 z oq => ?_
      refine k _ H1 _ hf (am_X_of (v := .inl (cA t, N, .inr (.inr (.inr (.inr (fun y => (am_u2 (am_P h) a i.toNatClampNeg (some j) a y).map (am_ad b0 b))))))) hX h0 hn rfl rfl rfl rfl (am_ce_q (h := am_setP h (am_u2 (am_P h) a i.toNatClampNeg (some j))) hs (by omega)) (fun y hy => am_ce_eq rfl (am_u2_ne _ _ _ hy) rfl rfl) (hX.1.set am_wl_D hat ?_ oq) z oq) (hS.put z oq (am_wl_D.2 _ _ hat))
      show H1[am_ad b0 b a]? = some (vp_cell _ _)
      rw [e1, am_u2_eq]
      dsimp only
      rw [vp_cell_q, vp_cell_q, arrV_store]
      congr 2
      funext q
      by_cases hq : q = i.toNatClampNeg
      · subst hq
        simp [updV, va_rf]
      · simp [updV, hq]
    · exact hh.elim
theorem am_r_len (hx : p.tables.exec = Jvm.exec) (hb : c.code = cc) (hY : am_Y G cl own D cA b0 b L xs s) (hX : am_X G cl D cA b0 b L xs h H) (hS : va_S (fun q => b ≤ q) s.heap H locs) {t N : Nat} (hs : am_sh h a = some (t, N)) (ht : 100 ≤ t ∧ t ≤ 104 ∨ (t = 150 ∧ a = 0)) (hd : decode cc pc = .ok (.arraylength, 1))
    (k : W p l e R s m args below meth c H locs cells slots Q (F0 m (pc + 1) ls (.int (Int32.ofNat N) :: rest))) : W p l e R s m args below meth c H locs cells slots Q (F0 m pc ls (.ref (am_ad b0 b a) :: rest)) := by
  rcases ht with ⟨h1, h2⟩ | ⟨h1, h2⟩
  · obtain ⟨-, -, hat⟩ := am_obj_at hX hs (by omega)
    have ht : t = 100 ∨ t = 101 ∨ t = 102 ∨ t = 103 ∨ t = 104 := by omega
    rcases ht with ht | ht | ht | ht | ht <;> subst ht
    · rw [am_ce_i hs (by decide) (by decide)] at hat
      exact va_alen hx hb hY.1 hX.1 (a - 1) 0 hat rfl rfl hd k
    · rw [am_ce_i hs (by decide) (by decide)] at hat
      exact va_alen hx hb hY.1 hX.1 (a - 1) 1 hat rfl rfl hd k
    · rw [am_ce_l hs] at hat
      exact va_alen hx hb hY.1 hX.1 (a - 1) 2 hat rfl rfl hd k
    · rw [am_ce_q hs (by decide)] at hat
      exact va_alen hx hb hY.1 hX.1 (a - 1) 3 hat rfl rfl hd k
    · rw [am_ce_q hs (by decide)] at hat
      exact va_alen hx hb hY.1 hX.1 (a - 1) 4 hat rfl rfl hd k
  · subst h1
    subst h2
    have hL : N = L := congrArg Prod.snd ((hX.2.2.1 0 _ hs).2 rfl)
    subst hL
    exact va_slen (A := fun q => b ≤ q) hx hb hY.2.2.2.1 (Nat.lt_of_lt_of_le hY.2.1 hY.2.2.1) (by have := hY.2.1; show ¬ b ≤ b0; omega) hS hd k
/-- a cell has come: the picture with it -/
theorem am_X_add {t N : Nat} {H1 : Heap} {v : va_E} (hX : am_X G cl D cA b0 b L xs h H) (hg : am_g h = 0) (ht : t ≠ 150) (he : am_ce G b0 b cA (am_add h t N) (am_n h + 1) = v) (hv : va_at D cl (b + am_n h, v) H1) (hz : H1.size = H.size + 1) (ho : ∀ q, q < H.size → H1[q]? = H[q]?) : am_X G cl D cA b0 b L xs (am_add h t N) H1 := by
  have hsz : H.size = b + am_n h := by rw [hX.2.1, hg]; rfl
  refine ⟨?_, ?_, ?_, ?_, ?_⟩
  · rw [← am_wl_add (h := h) (h' := am_add h t N) rfl he (fun x hx => ?_)]
    · refine va_P.app (hX.1.kept fun k q hk => ho q.1 ((hX.1 k q hk).lt)) (fun k q hk => ?_)
      have hz : k < 1 := (List.getElem?_eq_some_iff.mp hk).1
      rw [show k = 0 by omega] at hk
      cases hk
      exact hv
    · have hne : x ≠ am_n h + 1 := by omega
      exact am_ce_eq (am_u1_ne _ _ hne) (am_u1_ne _ _ hne) (am_u1_ne _ _ hne) (am_u1_ne _ _ hne)
  · rw [hz, hsz]
    show b + am_n h + 1 = b + (am_n h + 1) + am_g h
    omega
  · intro x q hq
    by_cases hne : x = am_n h + 1
    · subst hne
      exact ⟨Nat.le_refl _, fun z => by omega⟩
    · have hq' : am_sh h x = some q := (am_u1_ne (am_sh h) (some (t, N)) hne).symm.trans hq
      obtain ⟨h1, h2⟩ := hX.2.2.1 x q hq'
      exact ⟨Nat.le_succ_of_le h1, h2⟩
  · exact (am_u1_ne (am_I h) (fun _ => 0) (k := am_n h + 1) (Nat.succ_ne_zero (am_n h)).symm).trans hX.2.2.2.1
  · intro q ce hb9 hc9
    by_cases e9 : q = H.size
    · subst e9
      obtain ⟨ce2, g1, g2⟩ := am_ns hv
      rw [← hsz] at g1
      cases g1.symm.trans hc9
      exact g2
    · have hlt : q < H.size := by
        have := (Array.getElem?_eq_some_iff.mp hc9).1
        omega
      rw [ho q hlt] at hc9
      exact hX.2.2.2.2 q ce hb9 hc9
theorem am_S_add {H1 : Heap} (hS : va_S (fun q => b ≤ q) s.heap H locs) (hz : H1.size = H.size + 1) (ho : ∀ q, q < H.size → H1[q]? = H[q]?) : va_S (fun q => b ≤ q) s.heap H1 locs :=
  ⟨Nat.le_trans hS.1 (by omega), fun q h1 h2 => (ho q (Nat.lt_of_lt_of_le h1 hS.1)).trans (hS.2.1 q h1 h2), hS.2.2⟩
theorem am_r_new (hx : p.tables.exec = Jvm.exec) (hb : c.code = cc) (hts : ∀ w ∈ WS, w.before args s = true) (hown : s.vm.findClass (own o) = some m.cls) (hY : am_Y G cl own D cA b0 b L xs s) (hok : am_ok G cl own WS ci) (hX : am_X G cl D cA b0 b L xs h H) (hS : va_S (fun q => b ≤ q) s.heap H locs)
    (hlk : Cond.classLink (own o) idx (own ci) ∈ WS) (hin : Cond.instantiable (own ci) (am_nf G ci) ∈ WS) (hini : Cond.initialized (own ci) ∈ WS) (hg : am_g h = 0) (hcells : cells + 1 ≤ R.cells) (hslots : slots + am_nf G ci ≤ R.slots) (hd : decode cc pc = .ok (.new idx, 3))
    (k : ∀ (H1 : Heap), am_X G cl D cA b0 b L xs (am_add h ci (am_nf G ci)) H1 → va_S (fun q => b ≤ q) s.heap H1 locs → W p l e R s m args below meth c H1 locs (cells + 1) (slots + am_nf G ci) Q (F0 m (pc + 3) ls (.ref (am_ad b0 b (am_n h + 1)) :: rest))) : W p l e R s m args below meth c H locs cells slots Q (F0 m pc ls rest) := by
  obtain ⟨T, ty, hc, hlt, hu, hty, hnm, hdl, htt, hfin, hlk9⟩ := hok
  have hsz : H.size = b + am_n h := by rw [hX.2.1, hg]; rfl
  have hKn := hY.1.1 ci _ hc
  refine W.newcK hx hb hown (hts _ hlk) (hts _ hin) (hts _ hini) rfl hd hcells hslots hKn.2.1 hsz fun H1 kC hkC e1 z1 o1 => ?_
  have hs9 : am_sh (am_add h ci (am_nf G ci)) (am_n h + 1) = some (ci, am_nf G ci) := am_u1_eq _ _ _
  refine k H1 (am_X_add hX hg (by omega) (am_ce_o hs9 hlt) ⟨_, hc, (u_born ty hts hu hKn hkC e1 hty).to (fun j hj => ?_)⟩ (by omega) (fun q hq => o1 q (by omega))) (am_S_add hS (by omega) (fun q hq => o1 q (by omega)))
  show defaultValue (ty j) = vp_V ((List.range (am_nf G ci)).map _) j
  unfold vp_V
  rw [List.getD_eq_getElem?_getD, List.getElem?_map, List.getElem?_range hj, Option.map_some, Option.getD_some]
  have hP9 : am_P (am_add h ci (am_nf G ci)) (am_n h + 1) = fun _ => none := am_u1_eq _ _ _
  have hI9 : am_I (am_add h ci (am_nf G ci)) (am_n h + 1) = fun _ => 0 := am_u1_eq _ _ _
  rw [hP9, hI9]
  rcases htt j hj with ⟨g1, g2⟩ | ⟨g1, g2⟩ | ⟨g1, g2⟩
  · rw [if_neg (by omega), g2]
    rfl
  · rw [if_neg (by omega), g2]
    rfl
  · rw [if_pos g1]
    rcases g2 with ⟨n, g2⟩ | ⟨n, g2⟩ <;> rw [g2] <;> rfl
/-- a new array: t its tag, ty what it holds -/
theorem am_r_newa (hx : p.tables.exec = Jvm.exec) (hb : c.code = cc) (hts : ∀ w ∈ WS, w.before args s = true) (hY : am_Y G cl own D cA b0 b L xs s) (hX : am_X G cl D cA b0 b L xs h H) (hS : va_S (fun q => b ≤ q) s.heap H locs) {at_ : ArrayType} {t : Nat} (hat : (at_ = .int ∧ t = 100) ∨ (at_ = .boolean ∧ t = 101) ∨ (at_ = .long ∧ t = 102))
    (harr : Cond.arrayClass (newarray.typeOf at_) ∈ WS) {n : Int32} (hn : ¬ n < 0) (h4 : n.toNatClampNeg ≤ 10000) (hg : am_g h = 0) (hcells : cells + 1 ≤ R.cells) (hslots : slots + n.toNatClampNeg ≤ R.slots) (hd : decode cc pc = .ok (.newarray at_, 2))
    (k : ∀ (H1 : Heap), am_X G cl D cA b0 b L xs (am_add h t n.toNatClampNeg) H1 → va_S (fun q => b ≤ q) s.heap H1 locs → W p l e R s m args below meth c H1 locs (cells + 1) (slots + n.toNatClampNeg) Q (F0 m (pc + 2) ls (.ref (am_ad b0 b (am_n h + 1)) :: rest))) : W p l e R s m args below meth c H locs cells slots Q (F0 m pc ls (.int n :: rest)) := by
  have hsz : H.size = b + am_n h := by rw [hX.2.1, hg]; rfl
  have hcb : n.toNatClampNeg * componentBytes (newarray.typeOf at_) ≤ 536870912 := by
    have : componentBytes (newarray.typeOf at_) ≤ 8 := by rcases hat with ⟨rfl, -⟩ | ⟨rfl, -⟩ | ⟨rfl, -⟩ <;> decide
    calc n.toNatClampNeg * componentBytes (newarray.typeOf at_) ≤ 10000 * 8 := Nat.mul_le_mul h4 this
      _ ≤ 536870912 := by decide
  refine va_newaK hx hb (hts _ harr) rfl hd rfl hn rfl hcb hcells hslots hsz fun H1 cA1 e1 z1 o1 hAr hNm => ?_
  have hs9 : am_sh (am_add h t n.toNatClampNeg) (am_n h + 1) = some (t, n.toNatClampNeg) := am_u1_eq _ _ _
  have hI9 : am_I (am_add h t n.toNatClampNeg) (am_n h + 1) = fun _ => 0 := am_u1_eq _ _ _
  have hL9 : am_L (am_add h t n.toNatClampNeg) (am_n h + 1) = fun _ => 0 := am_u1_eq _ _ _
  rcases hat with ⟨rfl, rfl⟩ | ⟨rfl, rfl⟩ | ⟨rfl, rfl⟩
  · have hcA : cA1 = cA 100 := Option.some.inj (hNm.symm.trans (hY.1.2 0 _ rfl).2)
    subst hcA
    refine k H1 (am_X_add hX hg (by decide) (am_ce_i hs9 (by decide) (by decide)) ?_ (by omega) (fun q hq => o1 q (by omega))) (am_S_add hS (by omega) (fun q hq => o1 q (by omega)))
    rw [hI9]
    exact e1
  · have hcA : cA1 = cA 101 := Option.some.inj (hNm.symm.trans (hY.1.2 1 _ rfl).2)
    subst hcA
    refine k H1 (am_X_add hX hg (by decide) (am_ce_i hs9 (by decide) (by decide)) ?_ (by omega) (fun q hq => o1 q (by omega))) (am_S_add hS (by omega) (fun q hq => o1 q (by omega)))
    rw [hI9]
    exact e1
  · have hcA : cA1 = cA 102 := Option.some.inj (hNm.symm.trans (hY.1.2 2 _ rfl).2)
    subst hcA
    refine k H1 (am_X_add hX hg (by decide) (am_ce_l hs9) ?_ (by omega) (fun q hq => o1 q (by omega))) (am_S_add hS (by omega) (fun q hq => o1 q (by omega)))
    rw [hL9]
    exact e1
theorem am_r_anew (hx : p.tables.exec = Jvm.exec) (hb : c.code = cc) (hts : ∀ w ∈ WS, w.before args s = true) (hown : s.vm.findClass (own o) = some m.cls) (hY : am_Y G cl own D cA b0 b L xs s) (hX : am_X G cl D cA b0 b L xs h H) (hS : va_S (fun q => b ≤ q) s.heap H locs) {t : Nat} (ht : t = 103 ∨ t = 104)
    (hlk : Cond.classLink (own o) idx (own (am_ac G t)) ∈ WS) (hov : Cond.arrayOver (.object (own (am_ac G t))) ∈ WS) {n : Int32} (hn : ¬ n < 0) (h4 : n.toNatClampNeg ≤ 10000) (hg : am_g h = 0) (hcells : cells + 1 ≤ R.cells) (hslots : slots + n.toNatClampNeg ≤ R.slots) (hd : decode cc pc = .ok (.anewarray idx, 3))
    (k : ∀ (H1 : Heap), am_X G cl D cA b0 b L xs (am_add h t n.toNatClampNeg) H1 → va_S (fun q => b ≤ q) s.heap H1 locs → W p l e R s m args below meth c H1 locs (cells + 1) (slots + n.toNatClampNeg) Q (F0 m (pc + 3) ls (.ref (am_ad b0 b (am_n h + 1)) :: rest))) : W p l e R s m args below meth c H locs cells slots Q (F0 m pc ls (.int n :: rest)) := by
  have hsz : H.size = b + am_n h := by rw [hX.2.1, hg]; rfl
  refine W.anew hx hb hown (hts _ hlk) (hts _ hov) rfl hd rfl hn (by omega) hcells hslots fun cA1 kA comp g1 g2 g3 g4 => ?_
  have hs9 : am_sh (am_add h t n.toNatClampNeg) (am_n h + 1) = some (t, n.toNatClampNeg) := am_u1_eq _ _ _
  have hP9 : am_P (am_add h t n.toNatClampNeg) (am_n h + 1) = fun _ => none := am_u1_eq _ _ _
  have hRA : ∃ n : Nat, (am_tys cl G own cA)[n]? = some (cA t, FieldType.object (own (am_ac G t))) := by
    rcases ht with ht | ht <;> subst ht
    · exact ⟨3, rfl⟩
    · exact ⟨4, rfl⟩
  obtain ⟨n9, hRA⟩ := hRA
  obtain ⟨kA9, comp9, k1, k2, k3, k4⟩ := (hY.1.2 n9 _ hRA).2
  have hcA : cA1 = cA t := Option.some.inj (g1.symm.trans k4)
  subst hcA
  have hz : (H.push { cls := cA t, slots := Array.replicate n.toNatClampNeg .null, vm := .none }).size = H.size + 1 := by simp
  have ho : ∀ q, q < H.size → (H.push { cls := cA t, slots := Array.replicate n.toNatClampNeg .null, vm := .none })[q]? = H[q]? := fun q hq => by
    rw [Array.getElem?_push, if_neg (Nat.ne_of_lt hq)]
  have hk := k _ (am_X_add (t := t) (N := n.toNatClampNeg) hX hg (by omega) (am_ce_q hs9 (by omega)) (by
    rw [hP9]
    show (H.push _)[b + am_n h]? = some (vp_cell _ _)
    rw [← hsz, Array.getElem?_push_size, vp_cell_q, arrV_new]
    rfl) hz ho) (am_S_add hS hz ho)
  rw [show am_ad b0 b (am_n h + 1) = b + am_n h from rfl, ← hsz] at hk
  exact hk
theorem am_r_cpy (hx : p.tables.exec = Jvm.exec) (hb : c.code = cc) (hml : c.maxLocals = ls.size) (hts : ∀ w ∈ WS, w.before args s = true) (hown : s.vm.findClass (own o) = some m.cls) (hY : am_Y G cl own D cA b0 b L xs s) (hX : am_X G cl D cA b0 b L xs h H) (hS : va_S (fun q => b ≤ q) s.heap H locs)
    (hlk : Cond.methodLink (own o) idx arraycopyName ∈ WS) (hnat : Cond.native arraycopyName ∈ WS) (hstat : Cond.static arraycopyName ∈ WS) (hini : Cond.initialized "java/lang/System" ∈ WS) (hfr : 1 ≤ R.frames) (hlo : 8 + (nativeFrameWords "java/lang/System" "arraycopy" 5 + 11) ≤ R.locals) {st : List Value} {f : am_H → List Value → Prop} (hh : am_cpy h st f) (hd : decode cc pc = .ok (.invokestatic idx, 3))
    (k : ∀ (h' : am_H) (r : List Value) (H1 : Heap) (locs1 : List Loc), f h' r → am_X G cl D cA b0 b L xs h' H1 → va_S (fun q => b ≤ q) s.heap H1 locs1 → W p l e R s m args below meth c H1 locs1 cells slots Q (F0 m (pc + 3) ls (r.map (am_tv b0 b)))) : W p l e R s m args below meth c H locs cells slots Q (F0 m pc ls (st.map (am_tv b0 b))) := by
  unfold am_cpy at hh
  split at hh
  · rename_i n dp a1 sp a0 r
    obtain ⟨n0, n1, hs0, hs1, g1, g2, g3, g4, g5, hw, hf⟩ := hh
    obtain ⟨z0, hn0, hat0⟩ := am_obj_at hX hs0 (by decide)
    obtain ⟨z1, hn1, hat1⟩ := am_obj_at hX hs1 (by decide)
    rw [am_ce_i hs0 (by decide) (by decide)] at hat0
    rw [am_ce_i hs1 (by decide) (by decide)] at hat1
    have nn : ∀ z : Int32, ¬ z < 0 → z.toInt = (z.toNatClampNeg : Int) := by
      intro z hz
      have hz0 : (0 : Int) ≤ z.toInt := by
        have := Int32.not_lt.mp hz
        simpa using Int32.le_iff_toInt_le.mp this
      show z.toInt = ((z.toInt.toNat : Nat) : Int)
      omega
    intro T hT X
    have hc0 : H[am_ad b0 b a0]? = some (vp_cell (cA 100) (n0, .inl (am_I h a0))) := hX.1 (a0 - 1) _ hat0
    have hc1 : H[am_ad b0 b a1]? = some (vp_cell (cA 100) (n1, .inl (am_I h a1))) := hX.1 (a1 - 1) _ hat1
    obtain ⟨-, kk0, hk0, cm0, hkk0⟩ := (hY.1.2 0 _ rfl).1 n0 (fun j => .int (am_I h a0 j))
    obtain ⟨-, kk1, hk1, cm1, hkk1⟩ := (hY.1.2 0 _ rfl).1 n1 (fun j => .int (am_I h a1 j))
    obtain ⟨vm', X', step⟩ := X.arraycopy hx hown (hts _ hlk) (hts _ hnat) (hts _ hstat) (hts _ hini) (src := am_ad b0 b a0) (dst := am_ad b0 b a1) (cs := vp_cell (cA 100) (n0, .inl (am_I h a0))) (cd := vp_cell (cA 100) (n1, .inl (am_I h a1))) (srcPos := sp) (destPos := dp) (n := n) (by rw [hT]; exact hc0) (by rw [hT]; exact hc1)
      (fun _ h => by cases h) (fun _ h => by cases h) (fun h => by cases h) (fun h => by cases h) hk0 hk1 hkk0 hkk1 (by simp [refKind]) g1 g2 g3
      (by rw [nn sp g1, nn n g3]; show ¬ _ > ((arrV (cA 100) n0 (fun j => .int (am_I h a0 j))).slots.size : Int); rw [arrV_size]; omega)
      (by rw [nn dp g2, nn n g3]; show ¬ _ > ((arrV (cA 100) n1 (fun j => .int (am_I h a1 j))).slots.size : Int); rw [arrV_size]; omega)
      (fun vm₁ _ i hi => by
        have e9 : (vp_cell (cA 100) (n0, .inl (am_I h a0))).slots.getD (sp.toNatClampNeg + i) .null = .int (am_I h a0 (sp.toNatClampNeg + i)) := by
          show (arrV (cA 100) n0 (fun j => .int (am_I h a0 j))).slots.getD _ _ = _
          rw [Array.getD_eq_getD_getElem?, arrV_read _ _ (by omega)]
          rfl
        refine ⟨?_, ?_⟩
        · rw [e9]
          rfl
        · rw [e9]
          exact trivial)
      (g := F0 m pc ls (.int n :: .int dp :: .ref (am_ad b0 b a1) :: .int sp :: .ref (am_ad b0 b a0) :: r.map (am_tv b0 b))) rfl (by rw [hml]) (rest := r.map (am_tv b0 b)) rfl (by rw [hb]; exact hd) hfr (by show 2 * 0 + _ + _ ≤ _; rw [am_w8_map]; omega)
    have e1 : copied (vp_cell (cA 100) (n0, .inl (am_I h a0))) (vp_cell (cA 100) (n1, .inl (am_I h a1))) sp dp n = vp_cell (cA 100) (n1, .inl (va_cpy (am_I h a0) (am_I h a1) sp.toNatClampNeg dp.toNatClampNeg n.toNatClampNeg)) := va_copied (fun z => .int z) (cA 100) (cA 100) (am_I h a0) (am_I h a1) g4
    rw [e1] at X' step
    have hl9 : am_ad b0 b a1 < H.size := (Array.getElem?_eq_some_iff.mp hc1).1
    have oq : ∀ q : Nat, q ≠ am_ad b0 b a1 → (H.setIfInBounds (am_ad b0 b a1) (vp_cell (cA 100) (n1, .inl (va_cpy (am_I h a0) (am_I h a1) sp.toNatClampNeg dp.toNatClampNeg n.toNatClampNeg))))[q]? = H[q]? := fun q hq => by simp [Array.getElem?_setIfInBounds, Ne.symm hq]
    have hz9 : (H.setIfInBounds (am_ad b0 b a1) (vp_cell (cA 100) (n1, .inl (va_cpy (am_I h a0) (am_I h a1) sp.toNatClampNeg dp.toNatClampNeg n.toNatClampNeg)))).size = H.size := by simp
    have hXn : am_X G cl D cA b0 b L xs (am_setI h (am_u1 (am_I h) a1 (va_cpy (am_I h a0) (am_I h a1) sp.toNatClampNeg dp.toNatClampNeg n.toNatClampNeg))) (H.setIfInBounds (am_ad b0 b a1) (vp_cell (cA 100) (n1, .inl (va_cpy (am_I h a0) (am_I h a1) sp.toNatClampNeg dp.toNatClampNeg n.toNatClampNeg)))) := by
      refine am_X_of (v := .inl (cA 100, n1, .inl (va_cpy (am_I h a0) (am_I h a1) sp.toNatClampNeg dp.toNatClampNeg n.toNatClampNeg))) hX z1 hn1 rfl rfl rfl (am_u1_ne _ _ (Ne.symm z1)) ?_ (fun y hy => am_ce_eq rfl rfl (am_u1_ne _ _ hy) rfl) (hX.1.set am_wl_D hat1 ?_ oq) hz9 oq
      · rw [am_ce_i (h := am_setI h (am_u1 (am_I h) a1 (va_cpy (am_I h a0) (am_I h a1) sp.toNatClampNeg dp.toNatClampNeg n.toNatClampNeg))) hs1 (by decide) (by decide)]
        show Sum.inl (cA 100, n1, Sum.inl (am_u1 (am_I h) a1 _ a1)) = _
        rw [am_u1_eq]
      · show (H.setIfInBounds _ _)[am_ad b0 b a1]? = some _
        simp [Array.getElem?_setIfInBounds, hl9]
    obtain ⟨t, x1, x2⟩ := k _ r _ _ hf hXn ⟨by rw [hz9]; exact hS.1, fun q u1 u2 => by
        rw [oq q (fun z => u2 (by rw [z]; exact am_wl_D.2 _ _ hat1))]
        exact hS.2.1 q u1 u2, fun q hq => by
        rcases List.mem_append.mp hq with h9 | h9
        · exact hS.2.2 q h9
        · obtain ⟨z, -, hz⟩ := List.mem_map.mp h9
          rw [← hz]
          exact am_wl_D.2 _ _ hat1⟩ _ (by rw [← hT]; rfl) X'
    exact ⟨t, step t x1, x2⟩
  · exact hh.elim
end AMH2
