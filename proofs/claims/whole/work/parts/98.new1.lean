/-! Part 98: new objects: the heap as two lists, and the instructions that make it -/
def hLS (N : Nat) (H : List (Nat × Nat)) (P : List (List (Option Nat))) : am_S := (fun k => match k with
  | 0 => some (150, N)
  | k + 1 => H[k]?, fun k j => match k with
  | 0 => none
  | k + 1 => (P.getD k []).getD j none, H.length)
abbrev lz : bw_L := fun _ _ => 0
def zer (J : bw_J) (n : Nat) : Prop := ∀ c, n < c → J c = fun _ => 0
/-- a row of references with place i set -/
def setL : List (Option Nat) → Nat → Option Nat → List (Option Nat)
  | [], 0, x => [x]
  | [], n + 1, x => none :: setL [] n x
  | _ :: t, 0, x => x :: t
  | h :: t, n + 1, x => h :: setL t n x
theorem setL_get : ∀ (l : List (Option Nat)) (i : Nat) (x : Option Nat) (j : Nat), (setL l i x).getD j none = if j = i then x else l.getD j none
  | [], 0, x, 0 => rfl
  | [], 0, x, j + 1 => by rw [if_neg (by omega)]; rfl
  | [], n + 1, x, 0 => by rw [if_neg (by omega)]; rfl
  | [], n + 1, x, j + 1 => by
    have := setL_get [] n x j
    show (setL [] n x).getD j none = _
    rw [this]
    by_cases h : j = n
    · rw [if_pos h, if_pos (by omega)]
    · rw [if_neg h, if_neg (by omega)]; simp
  | _ :: t, 0, x, 0 => rfl
  | _ :: t, 0, x, j + 1 => by rw [if_neg (by omega)]; rfl
  | h :: t, n + 1, x, 0 => by rw [if_neg (by omega)]; rfl
  | h :: t, n + 1, x, j + 1 => by
    have := setL_get t n x j
    show (setL t n x).getD j none = _
    rw [this]
    by_cases q : j = n
    · rw [if_pos q, if_pos (by omega)]
    · rw [if_neg q, if_neg (by omega)]; rfl
def setP (P : List (List (Option Nat))) (a f j : Nat) : List (List (Option Nat)) := P.set a (setL (P.getD a []) f (some j))
theorem hLS_add {N : Nat} {H : List (Nat × Nat)} {P : List (List (Option Nat))} {t n : Nat} (h : P.length = H.length) : ((am_u1 (hLS N H P).1 (H.length + 1) (some (t, n)), am_u1 (hLS N H P).2.1 (H.length + 1) (fun _ => none), H.length + 1) : am_S) = hLS N (H ++ [(t, n)]) (P ++ [[]]) := by
  refine Prod.ext (funext fun k => ?_) (Prod.ext (funext fun k => funext fun j => ?_) ?_)
  · match k with
    | 0 => rfl
    | k + 1 =>
      show am_u1 (hLS N H P).1 (H.length + 1) (some (t, n)) (k + 1) = (H ++ [(t, n)])[k]?
      by_cases hk : k = H.length
      · subst hk
        rw [u1_at, List.getElem?_append_right (Nat.le_refl _), Nat.sub_self]; rfl
      · rw [u1_ne _ _ (by omega)]
        show H[k]? = _
        by_cases hl : k < H.length
        · rw [List.getElem?_append_left hl]
        · rw [List.getElem?_eq_none (by omega), List.getElem?_eq_none (by rw [List.length_append]; show H.length + 1 ≤ k; omega)]
  · match k with
    | 0 => rfl
    | k + 1 =>
      show am_u1 (hLS N H P).2.1 (H.length + 1) (fun _ => none) (k + 1) j = ((P ++ [[]]).getD k []).getD j none
      by_cases hk : k = H.length
      · subst hk
        rw [u1_at, List.getD_eq_getElem?_getD (l := P ++ [[]]), List.getElem?_append_right (by omega), h, Nat.sub_self]; rfl
      · rw [u1_ne _ _ (by omega)]
        show (P.getD k []).getD j none = _
        by_cases hl : k < P.length
        · rw [List.getD_eq_getElem?_getD (l := P ++ [[]]), List.getElem?_append_left hl, ← List.getD_eq_getElem?_getD]
        · rw [List.getD_eq_getElem?_getD (l := P), List.getElem?_eq_none (by omega), List.getD_eq_getElem?_getD (l := P ++ [[]]), List.getElem?_eq_none (by rw [List.length_append]; show P.length + 1 ≤ k; omega)]
  · show H.length + 1 = (H ++ [(t, n)]).length
    rw [List.length_append]; rfl
theorem hLS_put {N : Nat} {H : List (Nat × Nat)} {P : List (List (Option Nat))} {a f j : Nat} (h : a < P.length) : (((hLS N H P).1, am_u2 (hLS N H P).2.1 (a + 1) f (some j), H.length) : am_S) = hLS N H (setP P a f j) := by
  unfold setP
  refine Prod.ext rfl (Prod.ext (funext fun k => funext fun q => ?_) rfl)
  match k with
  | 0 =>
    show am_u2 (hLS N H P).2.1 (a + 1) f (some j) 0 q = none
    rw [u2_a _ _ (by omega)]; rfl
  | k + 1 =>
    show am_u2 (hLS N H P).2.1 (a + 1) f (some j) (k + 1) q = ((P.set a (setL (P.getD a []) f (some j))).getD k []).getD q none
    by_cases hk : k = a
    · subst hk
      rw [List.getD_eq_getElem?_getD (l := P.set _ _), List.getElem?_set_self h]
      show _ = (setL (P.getD k []) f (some j)).getD q none
      rw [setL_get]
      by_cases hq : q = f
      · subst hq; rw [u2_at, if_pos rfl]
      · rw [u2_k _ _ hq, if_neg hq]; rfl
    · rw [u2_a _ _ (by omega), List.getD_eq_getElem?_getD (l := P.set _ _), List.getElem?_set_ne (fun z => hk z.symm), ← List.getD_eq_getElem?_getD]
      rfl
theorem hLS_sh {N b i : Nat} {H tH : List (Nat × Nat)} {P : List (List (Option Nat))} {q : Nat × Nat} (hb : H.length = b) (h : tH[i]? = some q) : (hLS N (H ++ tH) P).1 (b + i + 1) = some q := by
  show (H ++ tH)[b + i]? = some q
  rw [List.getElem?_append_right (by omega), show b + i - H.length = i by omega]
  exact h
theorem hLS_p {N b i f j : Nat} {H : List (Nat × Nat)} {P tP : List (List (Option Nat))} (hb : P.length = b) (h : (tP.getD i []).getD f none = some j) : (hLS N H (P ++ tP)).2.1 (b + i + 1) f = some j := by
  show ((P ++ tP).getD (b + i) []).getD f none = some j
  rw [List.getD_eq_getElem?_getD (l := P ++ tP), List.getElem?_append_right (by omega), show b + i - P.length = i by omega, ← List.getD_eq_getElem?_getD]
  exact h
theorem setP_app {b i f j : Nat} {P tP : List (List (Option Nat))} (hb : P.length = b) : setP (P ++ tP) (b + i) f j = P ++ setP tP i f j := by
  unfold setP
  rw [List.set_append_right _ _ (by omega), List.getD_eq_getElem?_getD (l := P ++ tP), List.getElem?_append_right (by omega), show b + i - P.length = i by omega, ← List.getD_eq_getElem?_getD]
theorem setP_len {a f j : Nat} {P : List (List (Option Nat))} : (setP P a f j).length = P.length := by unfold setP; rw [List.length_set]
/-- with no rows the heap is J itself -/
theorem hp0 {W : bw_W} {J I : bw_J} (h : bw_hp r0 W J I) : I = J := funext fun c => h.2 c (bw_rc0 c)
theorem hp0r (W : bw_W) (J : bw_J) : bw_hp r0 W J J := ⟨fun a N h => (nomatch h), fun _ _ => rfl⟩
def cR (S : am_S) (J : bw_J) : am_O → am_H → Prop := fun o h => o = .inl none ∧ h = (S, 0, J, lz)
/-- a constructor j of an object x: what it leaves behind base b -/
def cS (d N j : Nat) (as : List Value) (x : Nat × Nat) (tH : List (Nat × Nat)) (tP : Nat → List (List (Option Nat))) (fJ : Nat → bw_J → bw_J) : Prop := ∀ (H : List (Nat × Nat)) (P : List (List (Option Nat))) (J : bw_J), P.length = H.length → zer J H.length → am_m tb_G d j (.ref (H.length + 1) :: as) (hLS N (H ++ [x]) (P ++ [[]]), 0, J, lz) (cR (hLS N (H ++ tH) (P ++ tP H.length)) (fJ H.length J))
section NW
variable {d : Nat} {M : am_M} {Qh : am_O → am_H → Prop} {pc pc2 N b n a : Nat} {al : List (Nat × Value)} {st r : List Value} {H tH : List (Nat × Nat)} {P tP : List (List (Option Nat))} {W : bw_W} {J : bw_J} {c u : Nat}
theorem c_add {t q : Nat} (hb : H.length = b) (hp : P.length = b) (l1 : tH.length = n) (l2 : tP.length = n) (hz : zer J (b + n)) (k : am_T (am_C tb_G d) tb_G M Qh pc2 al st (hLS N (H ++ (tH ++ [(t, q)])) (P ++ (tP ++ [[]])), 0, J, lz) c u) : am_T (am_C tb_G d) tb_G M Qh pc2 al st (am_add (hLS N (H ++ tH) (P ++ tP), 0, J, lz) t q) c u := by
  have e1 : am_add (hLS N (H ++ tH) (P ++ tP), 0, J, lz) t q = (hLS N (H ++ (tH ++ [(t, q)])) (P ++ (tP ++ [[]])), 0, J, lz) := by
    unfold am_add
    dsimp only
    have hl : (H ++ tH).length = b + n := by rw [List.length_append]; omega
    have hl2 : (P ++ tP).length = (H ++ tH).length := by rw [List.length_append]; omega
    rw [show (hLS N (H ++ tH) (P ++ tP)).2.2 = (H ++ tH).length from rfl, hLS_add hl2, List.append_assoc, List.append_assoc]
    refine Prod.ext rfl (Prod.ext rfl (Prod.ext ?_ ?_))
    · show am_u1 J _ _ = J
      have := u1_id J ((H ++ tH).length + 1)
      rw [hz _ (by omega)] at this
      exact this
    · show am_u1 lz _ _ = lz
      exact u1_id lz _
  rw [e1]
  exact k
theorem c_new {i ci z1 z2 : Nat} (hd : decode (am_b M) pc = .ok (.new i, 3)) (hpl : tb_pl (am_o M) i = (3, ci, z1, z2)) (hci : ci < 100) (hb : H.length = b) (hp : P.length = b) (l1 : tH.length = n) (l2 : tP.length = n) (hz : zer J (b + n)) (hc : c + 1 ≤ am_mc M) (hu : u + tb_nf ci ≤ am_ms M) (ha : b + n + 1 = a) (e : pc + 3 = pc2) (k : bH d (hLS N (H ++ (tH ++ [(ci, tb_nf ci)])) (P ++ (tP ++ [[]]))) r0 M Qh pc2 al (.ref a :: st) W J 0 lz (c + 1) (u + tb_nf ci)) : bH d (hLS N (H ++ tH) (P ++ tP)) r0 M Qh pc al st W J 0 lz c u := b_step hd fun I hI => by
  have := hp0 hI
  subst this
  refine ⟨rfl, ?_⟩
  rw [show am_pl tb_G (am_o M) i = (3, ci, z1, z2) from hpl]
  refine ⟨rfl, hc, hu, hci, ?_⟩
  refine c_add hb hp l1 l2 hz ?_
  rw [show am_n (hLS N (H ++ tH) (P ++ tP), 0, I, lz) = (H ++ tH).length from rfl, show (H ++ tH).length + 1 = a by rw [List.length_append]; omega]
  subst e
  exact k I hI
theorem c_newa {ty : ArrayType} {t q : Nat} (hd : decode (am_b M) pc = .ok (.newarray ty, 2)) (hty : (ty = .int ∧ t = 100) ∨ (ty = .boolean ∧ t = 101) ∨ (ty = .long ∧ t = 102)) (hq : q ≤ 10000) (hb : H.length = b) (hp : P.length = b) (l1 : tH.length = n) (l2 : tP.length = n) (hz : zer J (b + n)) (hc : c + 1 ≤ am_mc M) (hu : u + q ≤ am_ms M) (ha : b + n + 1 = a) (e : pc + 2 = pc2) (k : bH d (hLS N (H ++ (tH ++ [(t, q)])) (P ++ (tP ++ [[]]))) r0 M Qh pc2 al (.ref a :: st) W J 0 lz (c + 1) (u + q)) : bH d (hLS N (H ++ tH) (P ++ tP)) r0 M Qh pc al (.int (Int32.ofNat q) :: st) W J 0 lz c u := b_step hd fun I hI => by
  have := hp0 hI
  subst this
  refine ⟨rfl, ?_⟩
  have key : am_newa M t (Int32.ofNat q) (hLS N (H ++ tH) (P ++ tP), 0, I, lz) c u (fun h' c' u' => am_T (am_C tb_G d) tb_G M Qh (pc + 2) al (.ref (am_n (hLS N (H ++ tH) (P ++ tP), 0, I, lz) + 1) :: st) h' c' u') := by
    refine ⟨i_nn (by omega), ?_, rfl, hc, ?_, ?_⟩
    · rw [i_tn (by omega)]; exact hq
    · rw [i_tn (by omega)]; exact hu
    · rw [i_tn (by omega)]
      refine c_add hb hp l1 l2 hz ?_
      rw [show am_n (hLS N (H ++ tH) (P ++ tP), 0, I, lz) = (H ++ tH).length from rfl, show (H ++ tH).length + 1 = a by rw [List.length_append]; omega]
      subst e
      exact k I hI
  rcases hty with ⟨rfl, rfl⟩ | ⟨rfl, rfl⟩ | ⟨rfl, rfl⟩
  · exact key
  · exact key
  · exact key
theorem c_anew {i z1 z2 t q : Nat} (hd : decode (am_b M) pc = .ok (.anewarray i, 3)) (hpl : tb_pl (am_o M) i = (3, z1, t, z2)) (ht : t = 103 ∨ t = 104) (hq : q ≤ 10000) (hb : H.length = b) (hp : P.length = b) (l1 : tH.length = n) (l2 : tP.length = n) (hz : zer J (b + n)) (hc : c + 1 ≤ am_mc M) (hu : u + q ≤ am_ms M) (ha : b + n + 1 = a) (e : pc + 3 = pc2) (k : bH d (hLS N (H ++ (tH ++ [(t, q)])) (P ++ (tP ++ [[]]))) r0 M Qh pc2 al (.ref a :: st) W J 0 lz (c + 1) (u + q)) : bH d (hLS N (H ++ tH) (P ++ tP)) r0 M Qh pc al (.int (Int32.ofNat q) :: st) W J 0 lz c u := b_step hd fun I hI => by
  have := hp0 hI
  subst this
  refine ⟨rfl, ?_⟩
  show am_sti (.int (Int32.ofNat q) :: st) _
  dsimp only [am_sti]
  rw [show am_pl tb_G (am_o M) i = (3, z1, t, z2) from hpl]
  refine ⟨ht, i_nn (by omega), ?_, rfl, hc, ?_, ?_⟩
  · rw [i_tn (by omega)]; exact hq
  · rw [i_tn (by omega)]; exact hu
  · rw [i_tn (by omega)]
    refine c_add hb hp l1 l2 hz ?_
    rw [show am_n (hLS N (H ++ tH) (P ++ tP), 0, I, lz) = (H ++ tH).length from rfl, show (H ++ tH).length + 1 = a by rw [List.length_append]; omega]
    subst e
    exact k I hI
theorem c_putR {i ci fi q j : Nat} (hd : decode (am_b M) pc = .ok (.putfield i, 3)) (hpl : tb_pl (am_o M) i = (1, ci, fi, 0)) (hb : H.length = b) (hp : P.length = b) (hs : tH[q]? = some (ci, tb_nf ci)) (hq : q < tP.length) (hf : fi < tb_nf ci) (hw : tb_ft ci fi < 10 ∨ ((am_y M).name = "<init>" ∧ am_o M = ci)) (ht : tb_ft ci fi % 10 = 2) (ha : b + q + 1 = a) (e : pc + 3 = pc2) (k : bH d (hLS N (H ++ tH) (P ++ setP tP q fi j)) r0 M Qh pc2 al r W J 0 lz c u) : bH d (hLS N (H ++ tH) (P ++ tP)) r0 M Qh pc al (.ref j :: .ref a :: r) W J 0 lz c u := b_step hd fun I hI => by
  refine ⟨rfl, ?_⟩
  dsimp only [am_str, am_sti, am_stv]
  unfold am_put
  rw [show am_pl tb_G (am_o M) i = (1, ci, fi, 0) from hpl]
  subst ha
  refine ⟨hLS_sh hb hs, hf, hw, ht, ?_⟩
  have e1 : am_setP (hLS N (H ++ tH) (P ++ tP), 0, I, lz) (am_u2 (am_P (hLS N (H ++ tH) (P ++ tP), 0, I, lz)) (b + q + 1) fi (some j)) = (hLS N (H ++ tH) (P ++ setP tP q fi j), 0, I, lz) := by
    have := hLS_put (N := N) (H := H ++ tH) (P := P ++ tP) (a := b + q) (f := fi) (j := j) (by rw [List.length_append]; omega)
    rw [setP_app hp] at this
    show (((hLS N (H ++ tH) (P ++ tP)).1, am_u2 (hLS N (H ++ tH) (P ++ tP)).2.1 (b + q + 1) fi (some j), (H ++ tH).length), 0, I, lz) = _
    rw [this]
  rw [e1]
  subst e
  exact k I hI
theorem c_aast {q j s t m fi : Nat} (hd : decode (am_b M) pc = .ok (.aastore, 1)) (hb : H.length = b) (hp : P.length = b) (hs : tH[q]? = some (t, m)) (hq : q < tP.length) (ht : t = 103 ∨ t = 104) (hfi : fi < m) (hm : m < 1000) (hj : tH[s]? = some (am_ac tb_G t, am_nf tb_G (am_ac tb_G t))) (hac : am_ac tb_G t < 100) (hsj : b + s + 1 = j) (ha : b + q + 1 = a) (e : pc + 1 = pc2) (k : bH d (hLS N (H ++ tH) (P ++ setP tP q fi j)) r0 M Qh pc2 al r W J 0 lz c u) : bH d (hLS N (H ++ tH) (P ++ tP)) r0 M Qh pc al (.ref j :: .int (Int32.ofNat fi) :: .ref a :: r) W J 0 lz c u := b_step hd fun I hI => by
  refine ⟨rfl, ?_⟩
  dsimp only [am_str, am_sti, am_stv]
  unfold am_ast
  subst ha
  subst hsj
  rw [show am_sh (hLS N (H ++ tH) (P ++ tP), 0, I, lz) (b + q + 1) = some (t, m) from hLS_sh hb hs]
  refine ⟨i_in hfi (by omega), ht, hLS_sh hb hj, hac, ?_⟩
  rw [i_tn (by omega)]
  have e1 : am_setP (hLS N (H ++ tH) (P ++ tP), 0, I, lz) (am_u2 (am_P (hLS N (H ++ tH) (P ++ tP), 0, I, lz)) (b + q + 1) fi (some (b + s + 1))) = (hLS N (H ++ tH) (P ++ setP tP q fi (b + s + 1)), 0, I, lz) := by
    have := hLS_put (N := N) (H := H ++ tH) (P := P ++ tP) (a := b + q) (f := fi) (j := b + s + 1) (by rw [List.length_append]; omega)
    rw [setP_app hp] at this
    show (((hLS N (H ++ tH) (P ++ tP)).1, am_u2 (hLS N (H ++ tH) (P ++ tP)).2.1 (b + q + 1) fi (some (b + s + 1)), (H ++ tH).length), 0, I, lz) = _
    rw [this]
  rw [e1]
  subst e
  exact k I hI
theorem c_cv {tH2 : List (Nat × Nat)} {tP2 : List (List (Option Nat))} {R : Nat → Option Nat} {g : Nat} {L : bw_L} (e1 : tH = tH2) (e2 : tP = tP2) (k : bH d (hLS N (H ++ tH2) (P ++ tP2)) R M Qh pc al st W J g L c u) : bH d (hLS N (H ++ tH) (P ++ tP)) R M Qh pc al st W J g L c u := by
  subst e1; subst e2; exact k
theorem c_sup {i z1 z2 z3 x : Nat} {S : am_S} {R : Nat → Option Nat} {g : Nat} {L : bw_L} (hd : decode (am_b M) pc = .ok (.invokespecial i, 3)) (hpl : tb_pl (am_o M) i = (7, z1, z2, z3)) (h8 : am_w8 r ≤ 8) (e : pc + 3 = pc2) (k : bH d S R M Qh pc2 al r W J g L c u) : bH d S R M Qh pc al (.ref x :: r) W J g L c u := b_step hd fun I hI => by
  refine ⟨rfl, ?_⟩
  rw [show am_pl tb_G (am_o M) i = (7, z1, z2, z3) from hpl]
  subst e
  exact ⟨h8, k I hI⟩
theorem c_is {i j z c2 u2 : Nat} {as : List Value} {x : Nat × Nat} {tH' : List (Nat × Nat)} {tP' : Nat → List (List (Option Nat))} {fJ : Nat → bw_J → bw_J} (hm : cS d N j as x tH' tP' fJ) (hd : decode (am_b M) pc = .ok (.invokespecial i, 3)) (hpl : tb_pl (am_o M) i = (2, j, 2, z)) (hb : H.length = b) (hp : P.length = b) (l1 : tH.length = n) (l2 : tP.length = n) (hz : zer J (b + n)) (ha : b + n + 1 = a) (hn : am_np (tb_mt j) ≤ st.length) (has : (st.take (am_np (tb_mt j))).reverse = as) (hr : st.drop (am_np (tb_mt j)) = .ref a :: r) (h8 : am_w8 r ≤ 8) (hc : c + am_mc (tb_mt j) = c2) (hu : u + am_ms (tb_mt j) = u2) (hc2 : c2 ≤ am_mc M) (hu2 : u2 ≤ am_ms M) (e : pc + 3 = pc2) (k : bH d (hLS N (H ++ (tH ++ tH')) (P ++ (tP ++ tP' (b + n)))) r0 M Qh pc2 al r W (fJ (b + n) J) 0 lz c2 u2) : bH d (hLS N (H ++ (tH ++ [x])) (P ++ (tP ++ [[]]))) r0 M Qh pc al st W J 0 lz c u := b_step hd fun I hI => by
  have := hp0 hI
  subst this
  refine ⟨rfl, ?_⟩
  rw [show am_pl tb_G (am_o M) i = (2, j, 2, z) from hpl]
  refine ⟨hn, ?_⟩
  show am_str (st.drop (am_np (tb_mt j))) _
  rw [hr]
  have hl : (H ++ tH).length = b + n := by rw [List.length_append]; omega
  have hl2 : (P ++ tP).length = (H ++ tH).length := by rw [List.length_append]; omega
  obtain ⟨o, h', q1, q2, q3⟩ := hm (H ++ tH) (P ++ tP) I hl2 (by rw [hl]; exact hz)
  rw [hl, List.append_assoc, List.append_assoc] at q1
  rw [hl, List.append_assoc, List.append_assoc] at q3
  subst q2
  subst q3
  subst ha; subst has; subst hc; subst hu; subst e
  exact ⟨h8, hc2, hu2, .inl none, _, q1, k _ (hp0r _ _)⟩
theorem cS_of {j : Nat} {as : List Value} {x : Nat × Nat} {tH' : List (Nat × Nat)} {tP' : Nat → List (List (Option Nat))} {fJ : Nat → bw_J → bw_J} (h8 : ∀ b, am_w8 (.ref b :: as) ≤ am_mL (tb_mt j)) (h : ∀ (b : Nat) (H : List (Nat × Nat)) (P : List (List (Option Nat))) (J : bw_J), H.length = b → P.length = b → zer J b → bH d (hLS N (H ++ [x]) (P ++ [[]])) r0 (tb_mt j) (cR (hLS N (H ++ tH') (P ++ tP' b)) (fJ b J)) 0 (lv_args 0 (.ref (b + 1) :: as)) [] (fun _ => []) J 0 lz 0 0) : cS (d + 1) N j as x tH' tP' fJ := fun H P J hl hz => by
  refine am_m_of (h8 _) (Or.inr fun o h' q => ⟨none, q.1⟩) ?_
  exact h H.length H P J rfl hl hz J (hp0r _ _)
/-- the constructor's end -/
theorem c_vr {S : am_S} (hd : decode (am_b M) pc = .ok (.return_, 1)) (hr : am_rt M = none) : bH d S r0 M (cR S J) pc al [] W J 0 lz c u := b_step hd fun I hI => by
  have := hp0 hI
  subst this
  exact ⟨rfl, hr, rfl, rfl⟩
end NW
