/-! Part 21: rows of fields and arrays -/
theorem am_u1_eq {α : Type} (f : Nat → α) (k : Nat) (x : α) : am_u1 f k x k = x := if_pos rfl
theorem am_u1_ne {α : Type} (f : Nat → α) {k j : Nat} (x : α) (h : j ≠ k) : am_u1 f k x j = f j := if_neg h
theorem am_u2_eq {α : Type} (f : Nat → Nat → α) (a k : Nat) (x : α) : am_u2 f a k x a = fun j => if j = k then x else f a j := if_pos rfl
theorem am_u2_ne {α : Type} (f : Nat → Nat → α) {a b : Nat} (k : Nat) (x : α) (h : b ≠ a) : am_u2 f a k x b = f b := if_neg h
theorem am_ce_eq {G : am_G} {b0 b : Nat} {cA : Nat → ClassId} {h h' : am_H} {x : Nat} (h1 : am_sh h' x = am_sh h x) (h2 : am_P h' x = am_P h x) (h3 : am_I h' x = am_I h x) (h4 : am_L h' x = am_L h x) : am_ce G b0 b cA h' x = am_ce G b0 b cA h x := by
  unfold am_ce
  rw [h1, h2, h3, h4]
theorem am_ce_o {G : am_G} {b0 b : Nat} {cA : Nat → ClassId} {h : am_H} {a t N : Nat} (hs : am_sh h a = some (t, N)) (ht : t < 100) : am_ce G b0 b cA h a = .inr (t, (List.range N).map (fun j => if am_ft G t j % 10 = 2 then va_rf ((am_P h a j).map (am_ad b0 b)) else .int (am_I h a j))) := by
  unfold am_ce
  rw [hs]
  exact if_pos ht
theorem am_ce_i {G : am_G} {b0 b : Nat} {cA : Nat → ClassId} {h : am_H} {a t N : Nat} (hs : am_sh h a = some (t, N)) (h1 : ¬ t < 100) (h2 : t < 102) : am_ce G b0 b cA h a = .inl (cA t, N, .inl (am_I h a)) := by
  unfold am_ce
  rw [hs]
  exact (if_neg h1).trans (if_pos h2)
theorem am_ce_l {G : am_G} {b0 b : Nat} {cA : Nat → ClassId} {h : am_H} {a N : Nat} (hs : am_sh h a = some (102, N)) : am_ce G b0 b cA h a = .inl (cA 102, N, .inr (.inl (am_L h a))) := by
  unfold am_ce
  rw [hs]
  rfl
theorem am_ce_q {G : am_G} {b0 b : Nat} {cA : Nat → ClassId} {h : am_H} {a t N : Nat} (hs : am_sh h a = some (t, N)) (h1 : 102 < t) : am_ce G b0 b cA h a = .inl (cA t, N, .inr (.inr (.inr (.inr (fun j => (am_P h a j).map (am_ad b0 b)))))) := by
  unfold am_ce
  rw [hs]
  exact (if_neg (by omega)).trans ((if_neg (by omega)).trans (if_neg (by omega)))
theorem am_rset {α : Type} {N i : Nat} {f f' : Nat → α} {v : α} (h1 : ∀ j, j ≠ i → f' j = f j) (h2 : f' i = v) : ((List.range N).map f).set i v = (List.range N).map f' := by
  apply List.ext_getElem?
  intro j
  rw [List.getElem?_set, List.getElem?_map, List.getElem?_map]
  simp only [List.length_map, List.length_range]
  by_cases e : i = j
  · subst e
    rw [if_pos rfl]
    by_cases hl : i < N
    · rw [if_pos hl, List.getElem?_range hl, Option.map_some, h2]
    · rw [if_neg hl, List.getElem?_eq_none (by simpa using hl)]
      rfl
  · rw [if_neg e]
    by_cases hl : j < N
    · rw [List.getElem?_range hl, Option.map_some, Option.map_some, h1 j (Ne.symm e)]
    · rw [List.getElem?_eq_none (by simpa using hl)]
      rfl
section AMH
variable {p : Program} {l : Launch} {e : Env} {R : Room} {s : State} {m : MethodId} {args : Array Value} {below : List Frame} {meth : Method} {c : Code} {H : Heap} {locs : List Loc} {cells slots : Nat} {Q : State → Prop}
variable {cc : ByteArray} {pc : Nat} {ls : Array Slot} {rest : List Value} {b0 b L : Nat} {xs : Nat → Int32} {G : am_G} {cl : List vw_C} {own : Nat → String} {WS : List Cond} {D : va_G} {cA : Nat → ClassId} {h : am_H} {o idx ci fi a : Nat}
theorem am_obj_at (hX : am_X G cl D cA b0 b L xs h H) {t N : Nat} (hs : am_sh h a = some (t, N)) (ht : t ≠ 150) : a ≠ 0 ∧ a ≤ am_n h ∧ (am_wl G b0 b cA h)[a - 1]? = some (am_ad b0 b a, am_ce G b0 b cA h a) := by
  have h1 := hX.2.2.1 a _ hs
  have h0 : a ≠ 0 := fun z => ht (congrArg Prod.fst (h1.2 z))
  exact ⟨h0, h1.1, am_wl_at h0 h1.1⟩
theorem am_r_get (hx : p.tables.exec = Jvm.exec) (hb : c.code = cc) (hts : ∀ w ∈ WS, w.before args s = true) (hown : s.vm.findClass (own o) = some m.cls) (hY : am_Y G cl own D cA b0 b L xs s) (hok : am_ok G cl own WS ci) (hX : am_X G cl D cA b0 b L xs h H)
    (hpl : am_pl G o idx = (1, ci, fi, 0)) (hs : am_sh h a = some (ci, am_nf G ci)) (hfi : fi < am_nf G ci) (hd : decode cc pc = .ok (.getfield idx, 3)) {v : Value} (hv : (if am_ft G ci fi % 10 = 2 then va_rf ((am_P h a fi).map (am_ad b0 b)) else .int (am_I h a fi)) = v)
    (k : W p l e R s m args below meth c H locs cells slots Q (F0 m (pc + 3) ls (v :: rest))) : W p l e R s m args below meth c H locs cells slots Q (F0 m pc ls (.ref (am_ad b0 b a) :: rest)) := by
  obtain ⟨T, ty, hc, hlt, hu, hty, hnm, hdl, htt, hfin, hlk⟩ := hok
  obtain ⟨h0, hn, hat⟩ := am_obj_at hX hs (by omega)
  rw [am_ce_o hs hlt] at hat
  refine va_get hx hb hts hu hown hY.1 hX.1 (a - 1) hat hc fi hfi (hts _ (hlk o idx fi hpl hfi)) (fun x9 h9 => ?_) (v := v) ?_ hd k
  · rw [hdl fi hfi] at h9
    exact h9
  · rw [List.getElem?_map, List.getElem?_range hfi, Option.map_some, hv]
theorem am_r_put (hx : p.tables.exec = Jvm.exec) (hb : c.code = cc) (hts : ∀ w ∈ WS, w.before args s = true) (hown : s.vm.findClass (own o) = some m.cls) (hY : am_Y G cl own D cA b0 b L xs s) (hok : am_ok G cl own WS ci) (hX : am_X G cl D cA b0 b L xs h H) (hS : va_S (fun q => b ≤ q) s.heap H locs)
    (hpl : am_pl G o idx = (1, ci, fi, 0)) (hs : am_sh h a = some (ci, am_nf G ci)) (hfi : fi < am_nf G ci) (hf : am_ft G ci fi < 10 ∨ (meth.name = "<init>" ∧ own o = own ci)) (hd : decode cc pc = .ok (.putfield idx, 3)) {v : Value}
    (hv : (am_ft G ci fi % 10 = 0 ∧ ∃ x, v = .int x) ∨ (am_ft G ci fi % 10 = 1 ∧ (v = .int 0 ∨ v = .int 1)) ∨ (am_ft G ci fi % 10 = 2 ∧ ∃ x, v = .ref x))
    (kk : ∀ (H1 : Heap) (locs1 : List Loc), va_P D cl ((am_wl G b0 b cA h).set (a - 1) (am_ad b0 b a, .inr (ci, ((List.range (am_nf G ci)).map (fun j => if am_ft G ci j % 10 = 2 then va_rf ((am_P h a j).map (am_ad b0 b)) else .int (am_I h a j))).set fi v))) H1 → H1.size = H.size → (∀ q : Nat, q ≠ am_ad b0 b a → H1[q]? = H[q]?) → va_S (fun q => b ≤ q) s.heap H1 locs1 →
      W p l e R s m args below meth c H1 locs1 cells slots Q (F0 m (pc + 3) ls rest)) : W p l e R s m args below meth c H locs cells slots Q (F0 m pc ls (v :: .ref (am_ad b0 b a) :: rest)) := by
  obtain ⟨T, ty, hc, hlt, hu, hty, hnm, hdl, htt, hfin, hlk⟩ := hok
  obtain ⟨h0, hn, hat⟩ := am_obj_at hX hs (by omega)
  rw [am_ce_o hs hlt] at hat
  have hK := hY.1
  have hap := va_apart (own := own o) hts hu ty hty hnm hK hc
  have hnf : narrow (ty fi) v = v ∧ fits (ty fi) v = true := by
    rcases htt fi hfi with ⟨g1, g2⟩ | ⟨g1, g2⟩ | ⟨g1, g2⟩
    · rcases hv with ⟨_, x, rfl⟩ | ⟨w, _⟩ | ⟨w, _⟩
      · rw [g2]; exact ⟨rfl, rfl⟩
      · omega
      · omega
    · rcases hv with ⟨w, _⟩ | ⟨_, rfl | rfl⟩ | ⟨w, _⟩
      · omega
      · rw [g2]; exact ⟨rfl, rfl⟩
      · rw [g2]; exact ⟨rfl, rfl⟩
      · omega
    · rcases hv with ⟨w, _⟩ | ⟨w, _⟩ | ⟨_, x, rfl⟩
      · omega
      · omega
      · rcases g2 with ⟨n, g2⟩ | ⟨t, g2⟩ <;> rw [g2] <;> exact ⟨rfl, rfl⟩
  obtain ⟨r, h1, cell, q1, q2, q3, q4⟩ := hX.1 (a - 1) _ hat
  have hr : r = (own ci, T, am_nf G ci) := Option.some.inj (h1.symm.trans hc)
  subst hr
  obtain ⟨hS1, hfc, kC, hkC, hkind⟩ := hK.1 ci _ hc
  obtain ⟨cf, kf, f0, f, hi, hsl⟩ := hS1 fi hfi
  have hst := (u_facts hfc hkC (u_lays hts hu hfi) hi).1
  have hlk' := hts _ (hlk o idx fi hpl hfi)
  have hi' : s.fieldFound? (own ci) (T fi).2.1 (T fi).2.2.1 = some (cf, kf, f0, f) := by
    have := hi
    rw [show (own ci, T, am_nf G ci).2.1 = T from rfl, hdl fi hfi] at this
    exact this
  have hlay := hts _ (hu _ (u_in_lay hfi))
  unfold u_lay at hlay
  have hl : fi < ((List.range (am_nf G ci)).map (fun j => if am_ft G ci j % 10 = 2 then va_rf ((am_P h a j).map (am_ad b0 b)) else .int (am_I h a j))).length := by simpa using hfi
  by_cases h10 : am_ft G ci fi < 10
  · have hff : (T fi).2.2.2 = false := by rw [hfin fi hfi]; exact decide_eq_false (by omega)
    rw [if_neg (by rw [hff]; decide)] at hlay
    have h6 := u_store hfc hkC hkind hlay hi (hty fi hfi) hnf.1 hnf.2
    refine W.putK hx hb (f := f) ⟨hown, hlk', ⟨_, _, _, hi'⟩, hst⟩ (by rw [q2]; exact h6) q1 q3 (by rw [hsl]; exact k2_hasslot (q4 fi hfi)) rfl rfl hd fun H' e1 e2 e3 => ?_
    rw [hsl] at e1 ⊢
    exact kk H' _ (hX.1.set am_wl_D hat ⟨_, hc, t_OB.to (V := updV (vp_V _) fi v) ⟨_, e1, q2, q3, t_set q4 hap hfi v⟩ (fun j _ => vp_updV_set hl v j)⟩ e3) e2 e3 (hS.put e2 e3 (am_wl_D.2 _ _ hat))
  · rcases hf with hf | ⟨hin, hoo⟩
    · exact absurd hf h10
    · have hff : (T fi).2.2.2 = true := by rw [hfin fi hfi]; exact decide_eq_true (by omega)
      rw [if_pos hff] at hlay
      have hcf : m.cls = cf := by
        obtain ⟨_, _, c', _, _, _, -, -, hf', -, -, -, hown2, -⟩ := Cond.laysFinal_spec hlay
        have e1 : c' = cf := by have := hi.symm.trans hf'; simp at this; exact this.1.symm
        rw [hdl fi hfi, ← hoo] at hown2
        rw [← e1]; exact Option.some.inj (hown.symm.trans hown2)
      have h6 := u_fits hfc hkC hkind (Or.inr hlay) hi (hty fi hfi) hnf.1 hnf.2
      refine W.putFinK hx hb hown hlk' hi' hst hcf hin (by rw [q2]; exact h6) q1 q3 (by rw [hsl]; exact k2_hasslot (q4 fi hfi)) rfl rfl hd fun H' e1 e2 e3 => ?_
      rw [hsl] at e1 ⊢
      exact kk H' _ (hX.1.set am_wl_D hat ⟨_, hc, t_OB.to (V := updV (vp_V _) fi v) ⟨_, e1, q2, q3, t_set q4 hap hfi v⟩ (fun j _ => vp_updV_set hl v j)⟩ e3) e2 e3 (hS.put e2 e3 (am_wl_D.2 _ _ hat))
theorem am_ns {q : Nat × va_E} (h : va_at D cl q H) : ∃ ce : Cell, H[q.1]? = some ce ∧ ce.vm.isStatics = false := by
  obtain ⟨a9, e9⟩ := q
  cases e9 with
  | inl x =>
    refine ⟨_, h, ?_⟩
    obtain ⟨cA9, N9, f9⟩ := x
    rcases f9 with f9 | f9 | f9 | f9 | f9 <;> rfl
  | inr o9 =>
    obtain ⟨r, h1, cell, h2, h3, h4, h5⟩ := h
    exact ⟨cell, h2, by rw [h4]; rfl⟩
/-- a heap in which one cell's ints, or references, have changed -/
theorem am_X_of {h' : am_H} {H1 : Heap} {v : va_E} (hX : am_X G cl D cA b0 b L xs h H) (h0 : a ≠ 0) (hn : a ≤ am_n h) (hs' : am_sh h' = am_sh h) (hn' : am_n h' = am_n h) (hg' : am_g h' = am_g h) (hI0 : am_I h' 0 = am_I h 0) (he : am_ce G b0 b cA h' a = v) (ho : ∀ x, x ≠ a → am_ce G b0 b cA h' x = am_ce G b0 b cA h x)
    (hP1 : va_P D cl ((am_wl G b0 b cA h).set (a - 1) (am_ad b0 b a, v)) H1) (hz : H1.size = H.size) (hq : ∀ q : Nat, q ≠ am_ad b0 b a → H1[q]? = H[q]?) : am_X G cl D cA b0 b L xs h' H1 := by
  have hw : (am_wl G b0 b cA h).set (a - 1) (am_ad b0 b a, v) = am_wl G b0 b cA h' := am_wl_set h0 hn' he ho
  rw [hw] at hP1
  refine ⟨hP1, ?_, ?_, ?_, ?_⟩
  · rw [hz, hX.2.1, hn', hg']
  · intro x q hq
    rw [hs'] at hq
    rw [hn']
    exact hX.2.2.1 x q hq
  · rw [hI0]
    exact hX.2.2.2.1
  · intro q ce hb9 hc9
    by_cases e9 : q = am_ad b0 b a
    · subst e9
      obtain ⟨ce2, g1, g2⟩ := am_ns (hP1 (a - 1) _ (am_wl_at h0 (by rw [hn']; exact hn)))
      cases g1.symm.trans hc9
      exact g2
    · rw [hq q e9] at hc9
      exact hX.2.2.2.2 q ce hb9 hc9
theorem am_r_ald (hx : p.tables.exec = Jvm.exec) (hb : c.code = cc) (hY : am_Y G cl own D cA b0 b L xs s) (hX : am_X G cl D cA b0 b L xs h H) (hS : va_S (fun q => b ≤ q) s.heap H locs) {ins : Instr} {i : Int32} {f : Value → Prop} (hh : am_ald G ins h i a f) (hd : decode cc pc = .ok (ins, 1))
    (k : ∀ v, f v → W p l e R s m args below meth c H locs cells slots Q (F0 m (pc + 1) ls (am_tv b0 b v :: rest))) : W p l e R s m args below meth c H locs cells slots Q (F0 m pc ls (.int i :: .ref (am_ad b0 b a) :: rest)) := by
  obtain ⟨⟨t, N⟩, hs, hin, hh⟩ := am_so_s hh
  · dsimp only at hin hh
    split at hh
    · obtain ⟨ht | ⟨ht, h0⟩, hf⟩ := hh
      · subst ht
        obtain ⟨-, -, hat⟩ := am_obj_at hX hs (by decide)
        rw [am_ce_i hs (by decide) (by decide)] at hat
        exact va_iald hx hb hY.1 hX.1 (a - 1) 0 hat rfl hin hd (k _ hf)
      · subst ht
        subst h0
        have hL : N = L := by
          have := (hX.2.2.1 0 _ hs).2 rfl
          exact congrArg Prod.snd this
        subst hL
        have hk := k _ hf
        rw [hX.2.2.2.1] at hk
        exact va_sld (A := fun q => b ≤ q) hx hb hY.2.2.2.1 (Nat.lt_of_lt_of_le hY.2.1 hY.2.2.1) (by have := hY.2.1; show ¬ b ≤ b0; omega) hS hin hd hk
    · obtain ⟨ht, hf⟩ := hh
      subst ht
      obtain ⟨-, -, hat⟩ := am_obj_at hX hs (by decide)
      rw [am_ce_i hs (by decide) (by decide)] at hat
      exact va_zald hx hb hY.1 hX.1 (a - 1) 1 hat rfl hin hd (k _ hf)
    · obtain ⟨ht, hf⟩ := hh
      subst ht
      obtain ⟨-, -, hat⟩ := am_obj_at hX hs (by decide)
      rw [am_ce_l hs] at hat
      exact va_lald hx hb hY.1 hX.1 (a - 1) 2 hat rfl hin hd (k _ hf)
    · obtain ⟨ht, hf⟩ := hh
      obtain ⟨j, hj, hf⟩ := am_so_s hf
      have hk := k _ hf
      rcases ht with ht | ht <;> subst ht
      · obtain ⟨-, -, hat⟩ := am_obj_at hX hs (by decide)
        rw [am_ce_q hs (by decide)] at hat
        refine va_aldq hx hb hY.1 hX.1 (a - 1) 3 hat rfl hin hd ?_
        rw [hj]
        exact hk
      · obtain ⟨-, -, hat⟩ := am_obj_at hX hs (by decide)
        rw [am_ce_q hs (by decide)] at hat
        refine va_aldq hx hb hY.1 hX.1 (a - 1) 4 hat rfl hin hd ?_
        rw [hj]
        exact hk
    · exact hh.elim
end AMH
