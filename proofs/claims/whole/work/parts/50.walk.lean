/-! Part 50: walking over a heap in which the objects of class Row are lists. R a: the room of the row at a (its bytes lie in the cell behind it); W a: its bytes; J: all other cells. -/
abbrev bw_W : Type := Nat → List Int32
abbrev bw_J : Type := Nat → Nat → Int32
abbrev bw_L : Type := Nat → Nat → Int64
def bw_rc (R : Nat → Option Nat) (c : Nat) : Bool := (R c).isSome || (match c with
  | 0 => false
  | k + 1 => (R k).isSome)
def bw_hp (R : Nat → Option Nat) (W : bw_W) (J I : bw_J) : Prop :=
  (∀ a N, R a = some N → I a 1 = Int32.ofNat (W a).length ∧ (W a).length ≤ N ∧ ∀ k, k < (W a).length → I (a + 1) k = (W a).getD k 0) ∧ ∀ c, bw_rc R c = false → I c = J c
/-- an end, over rows -/
def bw_Q (S : am_S) (R : Nat → Option Nat) (Q : am_O → bw_W → bw_J → Nat → bw_L → Prop) : am_O → am_H → Prop := fun o h => ∃ (W : bw_W) (J : bw_J) (g : Nat) (I : bw_J) (L : bw_L), h = (S, g, I, L) ∧ bw_hp R W J I ∧ Q o W J g L
def bH (d : Nat) (S : am_S) (R : Nat → Option Nat) (M : am_M) (Qh : am_O → am_H → Prop) (pc : Nat) (al : List (Nat × Value)) (st : List Value) (W : bw_W) (J : bw_J) (g : Nat) (L : bw_L) (c u : Nat) : Prop :=
  ∀ I, bw_hp R W J I → am_T (am_C tb_G d) tb_G M Qh pc al st (S, g, I, L) c u
abbrev bT (d : Nat) (S : am_S) (R : Nat → Option Nat) (M : am_M) (Q : am_O → bw_W → bw_J → Nat → bw_L → Prop) (pc : Nat) (al : List (Nat × Value)) (st : List Value) (W : bw_W) (J : bw_J) (g : Nat) (L : bw_L) (c u : Nat) : Prop := bH d S R M (bw_Q S R Q) pc al st W J g L c u
def bm (d : Nat) (S : am_S) (R : Nat → Option Nat) (j : Nat) (as : List Value) (W : bw_W) (J : bw_J) (g : Nat) (L : bw_L) (Q : am_O → bw_W → bw_J → Nat → bw_L → Prop) : Prop :=
  ∀ I, bw_hp R W J I → am_m tb_G d j as (S, g, I, L) (bw_Q S R Q)
/-- it returns v, with the heap so -/
def bR (v : Option Value) (W1 : bw_W) (J1 : bw_J) (g1 : Nat) (L1 : bw_L) : am_O → bw_W → bw_J → Nat → bw_L → Prop := fun o W J g L => o = .inl v ∧ W = W1 ∧ J = J1 ∧ g = g1 ∧ L = L1
section BW
variable {d : Nat} {S : am_S} {R : Nat → Option Nat} {M : am_M} {Qh : am_O → am_H → Prop} {Q : am_O → bw_W → bw_J → Nat → bw_L → Prop} {pc pc2 : Nat} {al : List (Nat × Value)} {st r : List Value} {W : bw_W} {J : bw_J} {g : Nat} {L : bw_L} {c u : Nat}
theorem bm_of {j : Nat} {as : List Value} (h8 : am_w8 as ≤ am_mL (tb_mt j)) (hv : 5 < d + 1 ∨ ∀ o W J g L, Q o W J g L → ∃ v, o = .inl v) (hh : bT d S R (tb_mt j) Q 0 (lv_args 0 as) [] W J g L 0 0) : bm (d + 1) S R j as W J g L Q := fun I hI => by
  refine am_m_of h8 ?_ (hh I hI)
  rcases hv with hv | hv
  · exact Or.inl hv
  · refine Or.inr fun o h' q => ?_
    obtain ⟨W1, J1, g1, I1, L1, -, -, q1⟩ := q
    exact hv _ _ _ _ _ q1
theorem bm_up {d2 j : Nat} {as : List Value} {Q2 : am_O → bw_W → bw_J → Nat → bw_L → Prop} (hd : d ≤ d2) (hQ : ∀ o W J g L, Q o W J g L → Q2 o W J g L) (hh : bm d S R j as W J g L Q) : bm d2 S R j as W J g L Q2 := fun I hI => by
  refine am_m_up hd ?_ (hh I hI)
  intro o h' q
  obtain ⟨W1, J1, g1, I1, L1, e, q0, q1⟩ := q
  exact ⟨W1, J1, g1, I1, L1, e, q0, hQ _ _ _ _ _ q1⟩
theorem bR_ret {v : Option Value} {W1 : bw_W} {J1 : bw_J} {g1 : Nat} {L1 : bw_L} : ∀ o W J g L, bR v W1 J1 g1 L1 o W J g L → ∃ v, o = .inl v := fun _ _ _ _ _ q => ⟨_, q.1⟩
theorem b_step {ins : Instr} {len : Nat} (hd : decode (am_b M) pc = .ok (ins, len)) (k : ∀ I, bw_hp R W J I → am_do (am_C tb_G d) tb_G M (am_T (am_C tb_G d) tb_G M Qh) Qh ins len pc al st (S, g, I, L) c u) : bH d S R M Qh pc al st W J g L c u := fun I hI => by
  refine am_T_step ?_
  unfold am_step
  rw [hd]
  exact k I hI
theorem b_il {i : Nat} {x : Int32} (hd : decode (am_b M) pc = .ok (.iload i, 2)) (hl : am_lk al i = some (.int x)) (e : pc + 2 = pc2) (k : bH d S R M Qh pc2 al (.int x :: st) W J g L c u) : bH d S R M Qh pc al st W J g L c u := b_step hd fun I hI => ⟨rfl, by rw [hl, e]; exact k I hI⟩
theorem b_iln {i : Fin 4} {x : Int32} (hd : decode (am_b M) pc = .ok (.iload_n i, 1)) (hl : am_lk al i = some (.int x)) (e : pc + 1 = pc2) (k : bH d S R M Qh pc2 al (.int x :: st) W J g L c u) : bH d S R M Qh pc al st W J g L c u := b_step hd fun I hI => ⟨rfl, by rw [hl, e]; exact k I hI⟩
theorem b_ll {i : Nat} {x : Int64} (hd : decode (am_b M) pc = .ok (.lload i, 2)) (hl : am_lk al i = some (.long x)) (e : pc + 2 = pc2) (k : bH d S R M Qh pc2 al (.long x :: st) W J g L c u) : bH d S R M Qh pc al st W J g L c u := b_step hd fun I hI => ⟨rfl, by rw [hl, e]; exact k I hI⟩
theorem b_lln {i : Fin 4} {x : Int64} (hd : decode (am_b M) pc = .ok (.lload_n i, 1)) (hl : am_lk al i = some (.long x)) (e : pc + 1 = pc2) (k : bH d S R M Qh pc2 al (.long x :: st) W J g L c u) : bH d S R M Qh pc al st W J g L c u := b_step hd fun I hI => ⟨rfl, by rw [hl, e]; exact k I hI⟩
theorem b_al {i : Nat} {x : Nat} (hd : decode (am_b M) pc = .ok (.aload i, 2)) (hl : am_lk al i = some (.ref x)) (e : pc + 2 = pc2) (k : bH d S R M Qh pc2 al (.ref x :: st) W J g L c u) : bH d S R M Qh pc al st W J g L c u := b_step hd fun I hI => ⟨rfl, by rw [hl, e]; exact k I hI⟩
theorem b_aln {i : Fin 4} {x : Nat} (hd : decode (am_b M) pc = .ok (.aload_n i, 1)) (hl : am_lk al i = some (.ref x)) (e : pc + 1 = pc2) (k : bH d S R M Qh pc2 al (.ref x :: st) W J g L c u) : bH d S R M Qh pc al st W J g L c u := b_step hd fun I hI => ⟨rfl, by rw [hl, e]; exact k I hI⟩
theorem b_is {i : Nat} {x : Int32} {al2 : List (Nat × Value)} (hd : decode (am_b M) pc = .ok (.istore i, 2)) (hm : i < am_mL M) (hl : am_s1 al i (.int x) = al2) (e : pc + 2 = pc2) (k : bH d S R M Qh pc2 al2 r W J g L c u) : bH d S R M Qh pc al (.int x :: r) W J g L c u := b_step hd fun I hI => ⟨rfl, hm, by subst e; subst hl; exact k I hI⟩
theorem b_isn {i : Fin 4} {x : Int32} {al2 : List (Nat × Value)} (hd : decode (am_b M) pc = .ok (.istore_n i, 1)) (hm : (i : Nat) < am_mL M) (hl : am_s1 al i (.int x) = al2) (e : pc + 1 = pc2) (k : bH d S R M Qh pc2 al2 r W J g L c u) : bH d S R M Qh pc al (.int x :: r) W J g L c u := b_step hd fun I hI => ⟨rfl, hm, by subst e; subst hl; exact k I hI⟩
theorem b_as {i : Nat} {x : Nat} {al2 : List (Nat × Value)} (hd : decode (am_b M) pc = .ok (.astore i, 2)) (hm : i < am_mL M) (hl : am_s1 al i (.ref x) = al2) (e : pc + 2 = pc2) (k : bH d S R M Qh pc2 al2 r W J g L c u) : bH d S R M Qh pc al (.ref x :: r) W J g L c u := b_step hd fun I hI => ⟨rfl, hm, by subst e; subst hl; exact k I hI⟩
theorem b_asn {i : Fin 4} {x : Nat} {al2 : List (Nat × Value)} (hd : decode (am_b M) pc = .ok (.astore_n i, 1)) (hm : (i : Nat) < am_mL M) (hl : am_s1 al i (.ref x) = al2) (e : pc + 1 = pc2) (k : bH d S R M Qh pc2 al2 r W J g L c u) : bH d S R M Qh pc al (.ref x :: r) W J g L c u := b_step hd fun I hI => ⟨rfl, hm, by subst e; subst hl; exact k I hI⟩
theorem b_inc {i : Nat} {n : Int} {x y : Int32} {al2 : List (Nat × Value)} (hd : decode (am_b M) pc = .ok (.iinc i n, 3)) (hm : i < am_mL M) (hx : am_lk al i = some (.int x)) (hy : Int32.ofInt n = y) (hl : am_s1 al i (.int (x + y)) = al2) (e : pc + 3 = pc2) (k : bH d S R M Qh pc2 al2 st W J g L c u) : bH d S R M Qh pc al st W J g L c u := b_step hd fun I hI => ⟨rfl, hm, by subst e; subst hy; subst hl; rw [hx]; exact k I hI⟩
theorem b_pure {ins : Instr} {len : Nat} {st2 : List Value} (hd : decode (am_b M) pc = .ok (ins, len)) (hi : am_isd ins = true) (hp : am_pure ins st = some (len, st2)) (e : pc + len = pc2) (k : bH d S R M Qh pc2 al st2 W J g L c u) : bH d S R M Qh pc al st W J g L c u := b_step hd fun I hI => by
  rw [am_do_d hi]
  unfold am_dflt
  rw [hp]
  subst e
  exact ⟨rfl, k I hI⟩
theorem b_rem {x y : Int32} (hd : decode (am_b M) pc = .ok (.irem, 1)) (hy : ¬ y = 0) (e : pc + 1 = pc2) (k : bH d S R M Qh pc2 al (.int (x - x / y * y) :: r) W J g L c u) : bH d S R M Qh pc al (.int y :: .int x :: r) W J g L c u := b_step hd fun I hI => ⟨rfl, hy, by subst e; exact k I hI⟩
theorem b_ldc {i : Nat} {x : Int32} (hd : decode (am_b M) pc = .ok (.ldc i, 2)) (hk : tb_kc (am_o M) i = some (.int x)) (e : pc + 2 = pc2) (k : bH d S R M Qh pc2 al (.int x :: st) W J g L c u) : bH d S R M Qh pc al st W J g L c u := b_step hd fun I hI => ⟨rfl, by show am_vi (tb_kc (am_o M) i) _; rw [hk]; subst e; exact k I hI⟩
theorem b_ldcw {i : Nat} {x : Int32} (hd : decode (am_b M) pc = .ok (.ldc_w i, 3)) (hk : tb_kc (am_o M) i = some (.int x)) (e : pc + 3 = pc2) (k : bH d S R M Qh pc2 al (.int x :: st) W J g L c u) : bH d S R M Qh pc al st W J g L c u := b_step hd fun I hI => ⟨rfl, by show am_vi (tb_kc (am_o M) i) _; rw [hk]; subst e; exact k I hI⟩
theorem b_ldc2 {i : Nat} {x : Int64} (hd : decode (am_b M) pc = .ok (.ldc2_w i, 3)) (hk : tb_kc (am_o M) i = some (.long x)) (e : pc + 3 = pc2) (k : bH d S R M Qh pc2 al (.long x :: st) W J g L c u) : bH d S R M Qh pc al st W J g L c u := b_step hd fun I hI => ⟨rfl, by show am_vl (tb_kc (am_o M) i) _; rw [hk]; subst e; exact k I hI⟩
theorem b_gi {i ci fi a : Nat} (hd : decode (am_b M) pc = .ok (.getfield i, 3)) (hp : tb_pl (am_o M) i = (1, ci, fi, 0)) (hs : S.1 a = some (ci, tb_nf ci)) (hf : fi < tb_nf ci) (ht : ¬ tb_ft ci fi % 10 = 2) (hr : bw_rc R a = false) (e : pc + 3 = pc2) (k : bH d S R M Qh pc2 al (.int (J a fi) :: r) W J g L c u) : bH d S R M Qh pc al (.ref a :: r) W J g L c u := b_step hd fun I hI => by
  refine ⟨rfl, ?_⟩
  dsimp only [am_str, am_sti, am_stv]
  unfold am_get
  rw [show am_pl tb_G (am_o M) i = (1, ci, fi, 0) from hp]
  refine ⟨hs, hf, ?_⟩
  rw [if_neg (show ¬ am_ft tb_G ci fi % 10 = 2 from ht)]
  have : am_I (S, g, I, L) a fi = J a fi := congrFun (hI.2 a hr) fi
  rw [this]
  subst e
  exact k I hI
theorem b_gr {i ci fi a j : Nat} (hd : decode (am_b M) pc = .ok (.getfield i, 3)) (hp : tb_pl (am_o M) i = (1, ci, fi, 0)) (hs : S.1 a = some (ci, tb_nf ci)) (hf : fi < tb_nf ci) (ht : tb_ft ci fi % 10 = 2) (hj : S.2.1 a fi = some j) (e : pc + 3 = pc2) (k : bH d S R M Qh pc2 al (.ref j :: r) W J g L c u) : bH d S R M Qh pc al (.ref a :: r) W J g L c u := b_step hd fun I hI => by
  refine ⟨rfl, ?_⟩
  dsimp only [am_str, am_sti, am_stv]
  unfold am_get
  rw [show am_pl tb_G (am_o M) i = (1, ci, fi, 0) from hp]
  refine ⟨hs, hf, ?_⟩
  rw [if_pos (show am_ft tb_G ci fi % 10 = 2 from ht), show am_P (S, g, I, L) a fi = some j from hj]
  subst e
  exact k I hI
theorem bw_put {a fi : Nat} {x : Int32} {I : bw_J} (hI : bw_hp R W J I) (hr : bw_rc R a = false) : bw_hp R W (am_u2 J a fi x) (am_u2 I a fi x) := by
  have hne : ∀ b N, R b = some N → ¬ b = a ∧ ¬ b + 1 = a := fun b N hb => by
    constructor
    · intro h; subst h; unfold bw_rc at hr; rw [hb] at hr; cases hr
    · intro h; subst h; unfold bw_rc at hr; simp [hb] at hr
  refine ⟨fun b N hb => ?_, fun q hq => ?_⟩
  · obtain ⟨n1, n2⟩ := hne b N hb
    unfold am_u2
    rw [if_neg n1, if_neg n2]
    exact hI.1 b N hb
  · unfold am_u2
    by_cases h : q = a
    · subst h; rw [if_pos rfl, if_pos rfl, hI.2 q hq]
    · rw [if_neg h, if_neg h, hI.2 q hq]
theorem b_pi {i ci fi a : Nat} {x : Int32} (hd : decode (am_b M) pc = .ok (.putfield i, 3)) (hp : tb_pl (am_o M) i = (1, ci, fi, 0)) (hs : S.1 a = some (ci, tb_nf ci)) (hf : fi < tb_nf ci) (hw : tb_ft ci fi < 10 ∨ ((am_y M).name = "<init>" ∧ am_o M = ci)) (ht : tb_ft ci fi % 10 = 0 ∨ (tb_ft ci fi % 10 = 1 ∧ (x = 0 ∨ x = 1))) (hr : bw_rc R a = false) (e : pc + 3 = pc2) (k : bH d S R M Qh pc2 al r W (am_u2 J a fi x) g L c u) : bH d S R M Qh pc al (.int x :: .ref a :: r) W J g L c u := b_step hd fun I hI => by
  refine ⟨rfl, ?_⟩
  dsimp only [am_str, am_sti, am_stv]
  unfold am_put
  rw [show am_pl tb_G (am_o M) i = (1, ci, fi, 0) from hp]
  refine ⟨hs, hf, hw, ht, ?_⟩
  subst e
  exact k _ (bw_put hI hr)
theorem b_ia {i : Int32} {a n q : Nat} (hd : decode (am_b M) pc = .ok (.iaload, 1)) (hs : S.1 a = some (100, n)) (hi : vp_in i n) (hq : i.toNatClampNeg = q) (hr : bw_rc R a = false) (e : pc + 1 = pc2) (k : bH d S R M Qh pc2 al (.int (J a q) :: r) W J g L c u) : bH d S R M Qh pc al (.int i :: .ref a :: r) W J g L c u := b_step hd fun I hI => by
  refine ⟨rfl, ?_⟩
  dsimp only [am_str, am_sti, am_stv]
  unfold am_ald
  rw [show am_sh (S, g, I, L) a = some (100, n) from hs]
  refine ⟨hi, Or.inl rfl, ?_⟩
  have : am_I (S, g, I, L) a i.toNatClampNeg = J a q := by rw [hq]; exact congrFun (hI.2 a hr) q
  rw [this]
  subst e
  exact k I hI
theorem b_ia0 {i : Int32} {n q : Nat} (hd : decode (am_b M) pc = .ok (.iaload, 1)) (hs : S.1 0 = some (150, n)) (hi : vp_in i n) (hq : i.toNatClampNeg = q) (hr : bw_rc R 0 = false) (e : pc + 1 = pc2) (k : bH d S R M Qh pc2 al (.int (J 0 q) :: r) W J g L c u) : bH d S R M Qh pc al (.int i :: .ref 0 :: r) W J g L c u := b_step hd fun I hI => by
  refine ⟨rfl, ?_⟩
  dsimp only [am_str, am_sti, am_stv]
  unfold am_ald
  rw [show am_sh (S, g, I, L) 0 = some (150, n) from hs]
  refine ⟨hi, Or.inr ⟨rfl, rfl⟩, ?_⟩
  have : am_I (S, g, I, L) 0 i.toNatClampNeg = J 0 q := by rw [hq]; exact congrFun (hI.2 0 hr) q
  rw [this]
  subst e
  exact k I hI
theorem b_ba {i : Int32} {a n q : Nat} (hd : decode (am_b M) pc = .ok (.baload, 1)) (hs : S.1 a = some (101, n)) (hi : vp_in i n) (hq : i.toNatClampNeg = q) (hr : bw_rc R a = false) (e : pc + 1 = pc2) (k : bH d S R M Qh pc2 al (.int (J a q) :: r) W J g L c u) : bH d S R M Qh pc al (.int i :: .ref a :: r) W J g L c u := b_step hd fun I hI => by
  refine ⟨rfl, ?_⟩
  dsimp only [am_str, am_sti, am_stv]
  unfold am_ald
  rw [show am_sh (S, g, I, L) a = some (101, n) from hs]
  refine ⟨hi, rfl, ?_⟩
  have : am_I (S, g, I, L) a i.toNatClampNeg = J a q := by rw [hq]; exact congrFun (hI.2 a hr) q
  rw [this]
  subst e
  exact k I hI
theorem b_la {i : Int32} {a n q : Nat} (hd : decode (am_b M) pc = .ok (.laload, 1)) (hs : S.1 a = some (102, n)) (hi : vp_in i n) (hq : i.toNatClampNeg = q) (e : pc + 1 = pc2) (k : bH d S R M Qh pc2 al (.long (L a q) :: r) W J g L c u) : bH d S R M Qh pc al (.int i :: .ref a :: r) W J g L c u := b_step hd fun I hI => by
  refine ⟨rfl, ?_⟩
  dsimp only [am_str, am_sti, am_stv]
  unfold am_ald
  rw [show am_sh (S, g, I, L) a = some (102, n) from hs]
  refine ⟨hi, rfl, ?_⟩
  rw [hq]
  subst e
  exact k I hI
theorem b_aa {i : Int32} {a n q j t : Nat} (hd : decode (am_b M) pc = .ok (.aaload, 1)) (hs : S.1 a = some (t, n)) (ht : t = 103 ∨ t = 104) (hi : vp_in i n) (hq : i.toNatClampNeg = q) (hj : S.2.1 a q = some j) (e : pc + 1 = pc2) (k : bH d S R M Qh pc2 al (.ref j :: r) W J g L c u) : bH d S R M Qh pc al (.int i :: .ref a :: r) W J g L c u := b_step hd fun I hI => by
  refine ⟨rfl, ?_⟩
  dsimp only [am_str, am_sti, am_stv]
  unfold am_ald
  rw [show am_sh (S, g, I, L) a = some (t, n) from hs]
  refine ⟨hi, ht, ?_⟩
  rw [hq, show am_P (S, g, I, L) a q = some j from hj]
  subst e
  exact k I hI
theorem b_ist {i x : Int32} {a n q : Nat} (hd : decode (am_b M) pc = .ok (.iastore, 1)) (hs : S.1 a = some (100, n)) (hi : vp_in i n) (hq : i.toNatClampNeg = q) (hr : bw_rc R a = false) (e : pc + 1 = pc2) (k : bH d S R M Qh pc2 al r W (am_u2 J a q x) g L c u) : bH d S R M Qh pc al (.int x :: .int i :: .ref a :: r) W J g L c u := b_step hd fun I hI => by
  refine ⟨rfl, ?_⟩
  dsimp only [am_str, am_sti, am_stv]
  unfold am_ast
  rw [show am_sh (S, g, I, L) a = some (100, n) from hs]
  refine ⟨hi, rfl, ?_⟩
  rw [hq]
  subst e
  exact k _ (bw_put hI hr)
theorem b_bst {i x : Int32} {a n q : Nat} (hd : decode (am_b M) pc = .ok (.bastore, 1)) (hs : S.1 a = some (101, n)) (hi : vp_in i n) (hq : i.toNatClampNeg = q) (hr : bw_rc R a = false) (hx : x = 0 ∨ x = 1) (e : pc + 1 = pc2) (k : bH d S R M Qh pc2 al r W (am_u2 J a q x) g L c u) : bH d S R M Qh pc al (.int x :: .int i :: .ref a :: r) W J g L c u := b_step hd fun I hI => by
  refine ⟨rfl, ?_⟩
  dsimp only [am_str, am_sti, am_stv]
  unfold am_ast
  rw [show am_sh (S, g, I, L) a = some (101, n) from hs]
  refine ⟨hi, rfl, ?_⟩
  have : vp_nar .boolean x = x := by rcases hx with h | h <;> subst h <;> decide
  rw [hq, this]
  subst e
  exact k _ (bw_put hI hr)
theorem b_lst {i : Int32} {x : Int64} {a n q : Nat} (hd : decode (am_b M) pc = .ok (.lastore, 1)) (hs : S.1 a = some (102, n)) (hi : vp_in i n) (hq : i.toNatClampNeg = q) (e : pc + 1 = pc2) (k : bH d S R M Qh pc2 al r W J g (am_u2 L a q x) c u) : bH d S R M Qh pc al (.long x :: .int i :: .ref a :: r) W J g L c u := b_step hd fun I hI => by
  refine ⟨rfl, ?_⟩
  dsimp only [am_str, am_sti, am_stv]
  unfold am_ast
  rw [show am_sh (S, g, I, L) a = some (102, n) from hs]
  refine ⟨hi, rfl, ?_⟩
  rw [hq]
  subst e
  exact k I hI
theorem b_len {a n t : Nat} (hd : decode (am_b M) pc = .ok (.arraylength, 1)) (hs : S.1 a = some (t, n)) (ht : 100 ≤ t ∧ t ≤ 104 ∨ (t = 150 ∧ a = 0)) (e : pc + 1 = pc2) (k : bH d S R M Qh pc2 al (.int (Int32.ofNat n) :: r) W J g L c u) : bH d S R M Qh pc al (.ref a :: r) W J g L c u := b_step hd fun I hI => by
  refine ⟨rfl, ?_⟩
  show am_so (am_sh (S, g, I, L) a) _
  rw [show am_sh (S, g, I, L) a = some (t, n) from hs]
  subst e
  exact ⟨ht, k I hI⟩
theorem b_thr {i x ic z : Nat} (hd : decode (am_b M) pc = .ok (.new i, 3)) (hp : tb_pl (am_o M) i = (5, x, ic, z)) (hh : am_hs M = []) (hc : c + 1 ≤ am_mc M) (hu : u + 6 ≤ am_ms M) (h8 : am_w8 st ≤ 8) (h1 : decode (am_b M) (pc + 3) = .ok (.dup, 1)) (h2 : decode (am_b M) (pc + 4) = .ok (.invokespecial ic, 3)) (h3 : decode (am_b M) (pc + 7) = .ok (.athrow, 1)) (k : Q (.inr x) W J (g + 1) L) : bT d S R M Q pc al st W J g L c u := b_step hd fun I hI => by
  refine ⟨rfl, ?_⟩
  rw [show am_pl tb_G (am_o M) i = (5, x, ic, z) from hp]
  exact ⟨hh, hc, hu, h8, h1, h2, h3, W, J, g + 1, I, L, rfl, hI, k⟩
theorem b_ir {x : Int32} (hd : decode (am_b M) pc = .ok (.ireturn, 1)) (hr : am_rt M = some .int) (k : Q (.inl (some (.int x))) W J g L) : bT d S R M Q pc al [.int x] W J g L c u := b_step hd fun I hI => by
  refine ⟨rfl, ?_⟩
  show (match am_rt M with
      | some .int => bw_Q S R Q (.inl (some (.int x))) (S, g, I, L)
      | some .boolean => (x = 0 ∨ x = 1) ∧ bw_Q S R Q (.inl (some (.int x))) (S, g, I, L)
      | _ => False)
  rw [hr]
  exact ⟨W, J, g, I, L, rfl, hI, k⟩
theorem b_br {x : Int32} (hd : decode (am_b M) pc = .ok (.ireturn, 1)) (hr : am_rt M = some .boolean) (hx : x = 0 ∨ x = 1) (k : Q (.inl (some (.int x))) W J g L) : bT d S R M Q pc al [.int x] W J g L c u := b_step hd fun I hI => by
  refine ⟨rfl, ?_⟩
  show (match am_rt M with
      | some .int => bw_Q S R Q (.inl (some (.int x))) (S, g, I, L)
      | some .boolean => (x = 0 ∨ x = 1) ∧ bw_Q S R Q (.inl (some (.int x))) (S, g, I, L)
      | _ => False)
  rw [hr]
  exact ⟨hx, W, J, g, I, L, rfl, hI, k⟩
theorem b_ar {a : Nat} {n : String} (hd : decode (am_b M) pc = .ok (.areturn, 1)) (hr : am_rt M = some (.object n)) (k : Q (.inl (some (.ref a))) W J g L) : bT d S R M Q pc al [.ref a] W J g L c u := b_step hd fun I hI => by
  refine ⟨rfl, ?_⟩
  show (match am_rt M with
      | some (.object _) => bw_Q S R Q (.inl (some (.ref a))) (S, g, I, L)
      | _ => False)
  rw [hr]
  exact ⟨W, J, g, I, L, rfl, hI, k⟩
theorem b_vr (hd : decode (am_b M) pc = .ok (.return_, 1)) (hr : am_rt M = none) (k : Q (.inl none) W J g L) : bT d S R M Q pc al [] W J g L c u := b_step hd fun I hI => ⟨rfl, hr, W, J, g, I, L, rfl, hI, k⟩
theorem b_go {off : Int} (hd : decode (am_b M) pc = .ok (.goto off, 3)) (e : (pc : Int) + off = (pc2 : Int)) (k : bH d S R M Qh pc2 al st W J g L c u) : bH d S R M Qh pc al st W J g L c u := b_step hd fun I hI => by
  rw [am_do_d rfl]
  refine ⟨rfl, ?_⟩
  unfold am_tg
  rw [e]
  exact ⟨rfl, k I hI⟩
theorem b_if {ins : Instr} {b : Bool} {off : Int} {pc3 : Nat} (hd : decode (am_b M) pc = .ok (ins, 3)) (hi : am_isd ins = true) (hp : am_pure ins st = none) (hb : am_br ins st = some (b, off, r)) (e : (pc : Int) + off = (pc2 : Int)) (e3 : pc + 3 = pc3) (k1 : b = true → bH d S R M Qh pc2 al r W J g L c u) (k2 : b = false → bH d S R M Qh pc3 al r W J g L c u) : bH d S R M Qh pc al st W J g L c u := b_step hd fun I hI => by
  rw [am_do_d hi]
  unfold am_dflt
  rw [hp, hb]
  refine ⟨rfl, ?_⟩
  unfold am_tg
  dsimp only
  rw [e]
  refine ⟨rfl, ?_⟩
  cases b with
  | true => exact k1 rfl I hI
  | false => rw [if_neg (by decide)]; subst e3; exact k2 rfl I hI
theorem b_sw {ins : Instr} {len : Nat} {off : Int} (hd : decode (am_b M) pc = .ok (ins, len)) (hi : am_isd ins = true) (hp : am_pure ins st = none) (hb : am_br ins st = none) (hs : am_sw ins st = some (off, r)) (e : (pc : Int) + off = (pc2 : Int)) (k : bH d S R M Qh pc2 al r W J g L c u) : bH d S R M Qh pc al st W J g L c u := b_step hd fun I hI => by
  rw [am_do_d hi]
  unfold am_dflt
  rw [hp, hb, hs]
  unfold am_tg
  dsimp only
  rw [e]
  exact ⟨rfl, k I hI⟩
theorem b_mn {i x y : Int32} {j : Nat} {z : Nat × Nat} (hd : decode (am_b M) pc = .ok (.invokestatic j, 3)) (hp : tb_pl (am_o M) j = (10, 0, z)) (h8 : am_w8 r ≤ 8) (e : pc + 3 = pc2) (k : bH d S R M Qh pc2 al (.int (if y < x then y else x) :: r) W J g L c u) : bH d S R M Qh pc al (.int y :: .int x :: r) W J g L c u := b_step hd fun I hI => by
  refine ⟨rfl, ?_⟩
  rw [show am_pl tb_G (am_o M) j = (10, 0, z) from hp]
  subst e
  exact ⟨h8, k I hI⟩
theorem b_mx {i x y : Int32} {j : Nat} {z : Nat × Nat} (hd : decode (am_b M) pc = .ok (.invokestatic j, 3)) (hp : tb_pl (am_o M) j = (11, 0, z)) (h8 : am_w8 r ≤ 8) (e : pc + 3 = pc2) (k : bH d S R M Qh pc2 al (.int (if x < y then y else x) :: r) W J g L c u) : bH d S R M Qh pc al (.int y :: .int x :: r) W J g L c u := b_step hd fun I hI => by
  refine ⟨rfl, ?_⟩
  rw [show am_pl tb_G (am_o M) j = (11, 0, z) from hp]
  subst e
  exact ⟨h8, k I hI⟩
/-- what a call that returns leaves -/
theorem bw_inv {j : Nat} {as : List Value} {I : bw_J} {v : Option Value} {W1 : bw_W} {J1 : bw_J} {g1 : Nat} {L1 : bw_L} {c2 u2 : Nat} (hI : bw_hp R W J I) (h8 : am_w8 r ≤ 8) (hc : c + am_mc (tb_mt j) = c2) (hu : u + am_ms (tb_mt j) = u2) (hc2 : c2 ≤ am_mc M) (hu2 : u2 ≤ am_ms M) (hm : bm d S R j as W J g L (bR v W1 J1 g1 L1)) (e : pc + 3 = pc2) (k : bH d S R M Qh pc2 al (v.toList ++ r) W1 J1 g1 L1 c2 u2) :
    am_inv (am_C tb_G d) tb_G M (am_T (am_C tb_G d) tb_G M Qh) Qh j as pc al r (S, g, I, L) c u := by
  obtain ⟨o, h', q1, W2, J2, g2, I2, L2, rfl, q2, rfl, rfl, rfl, rfl, rfl⟩ := hm I hI
  subst hc; subst hu; subst e
  exact ⟨h8, hc2, hu2, .inl v, _, q1, k I2 q2⟩
theorem b_cs {i j z t : Nat} {as : List Value} {v : Option Value} {W1 : bw_W} {J1 : bw_J} {g1 : Nat} {L1 : bw_L} {c2 u2 : Nat} (hm : bm d S R j as W J g L (bR v W1 J1 g1 L1)) (hd : decode (am_b M) pc = .ok (.invokestatic i, 3)) (hp : tb_pl (am_o M) i = (2, j, t, z)) (ht : t = 1 ∨ t = 4) (hn : am_np (tb_mt j) ≤ st.length) (ha : (st.take (am_np (tb_mt j))).reverse = as) (hr : st.drop (am_np (tb_mt j)) = r) (h8 : am_w8 r ≤ 8) (hc : c + am_mc (tb_mt j) = c2) (hu : u + am_ms (tb_mt j) = u2) (hc2 : c2 ≤ am_mc M) (hu2 : u2 ≤ am_ms M) (e : pc + 3 = pc2) (k : bH d S R M Qh pc2 al (v.toList ++ r) W1 J1 g1 L1 c2 u2) : bH d S R M Qh pc al st W J g L c u := b_step hd fun I hI => by
  refine ⟨rfl, ?_⟩
  have key := bw_inv (M := M) (Qh := Qh) (pc := pc) (al := al) hI h8 hc hu hc2 hu2 hm e k
  subst ha; subst hr
  rcases ht with rfl | rfl
  · rw [show am_pl tb_G (am_o M) i = (2, j, 1, z) from hp]; exact ⟨hn, key⟩
  · rw [show am_pl tb_G (am_o M) i = (2, j, 4, z) from hp]; exact ⟨hn, key⟩
theorem b_cv {i j z b : Nat} {as : List Value} {v : Option Value} {W1 : bw_W} {J1 : bw_J} {g1 : Nat} {L1 : bw_L} {c2 u2 : Nat} (hm : bm d S R j (.ref b :: as) W J g L (bR v W1 J1 g1 L1)) (hd : decode (am_b M) pc = .ok (.invokevirtual i, 3)) (hp : tb_pl (am_o M) i = (2, j, 0, z)) (hn : am_np (tb_mt j) ≤ st.length) (ha : (st.take (am_np (tb_mt j))).reverse = as) (hr : st.drop (am_np (tb_mt j)) = .ref b :: r) (hs : S.1 b = some (am_o (tb_mt j), tb_nf (am_o (tb_mt j)))) (h8 : am_w8 r ≤ 8) (hc : c + am_mc (tb_mt j) = c2) (hu : u + am_ms (tb_mt j) = u2) (hc2 : c2 ≤ am_mc M) (hu2 : u2 ≤ am_ms M) (e : pc + 3 = pc2) (k : bH d S R M Qh pc2 al (v.toList ++ r) W1 J1 g1 L1 c2 u2) : bH d S R M Qh pc al st W J g L c u := b_step hd fun I hI => by
  refine ⟨rfl, ?_⟩
  have key := bw_inv (M := M) (Qh := Qh) (pc := pc) (al := al) hI h8 hc hu hc2 hu2 hm e k
  subst ha
  rw [show am_pl tb_G (am_o M) i = (2, j, 0, z) from hp]
  refine ⟨hn, ?_⟩
  show am_str (st.drop (am_np (tb_mt j))) _
  rw [hr]
  exact ⟨hs, key⟩
/-- a call that may end in several ways -/
theorem bw_invQ {j : Nat} {as : List Value} {I : bw_J} {Q1 : am_O → bw_W → bw_J → Nat → bw_L → Prop} {c2 u2 : Nat} (hI : bw_hp R W J I) (h8 : am_w8 r ≤ 8) (hc : c + am_mc (tb_mt j) = c2) (hu : u + am_ms (tb_mt j) = u2) (hc2 : c2 ≤ am_mc M) (hu2 : u2 ≤ am_ms M) (hm : bm d S R j as W J g L Q1) (e : pc + 3 = pc2)
    (k : ∀ o W1 J1 g1 L1, Q1 o W1 J1 g1 L1 → (∃ v, o = .inl v ∧ bT d S R M Q pc2 al (v.toList ++ r) W1 J1 g1 L1 c2 u2) ∨ (∃ x, o = .inr x ∧ ((am_hs M = [] ∧ Q (.inr x) W1 J1 g1 L1) ∨ ∃ t, am_hf (fun i => (tb_pl (am_o M) i).2.1) (am_hs M) pc x = some t ∧ x < 4 ∧ bT d S R M Q t al [.ref (S.2.2 + g1)] W1 J1 g1 L1 c2 u2))) :
    am_inv (am_C tb_G d) tb_G M (am_T (am_C tb_G d) tb_G M (bw_Q S R Q)) (bw_Q S R Q) j as pc al r (S, g, I, L) c u := by
  obtain ⟨o, h', q1, W2, J2, g2, I2, L2, rfl, q2, q3⟩ := hm I hI
  subst hc; subst hu; subst e
  refine ⟨h8, hc2, hu2, o, _, q1, ?_⟩
  rcases k _ _ _ _ _ q3 with ⟨v, rfl, k⟩ | ⟨x, rfl, ⟨k1, k2⟩ | ⟨t, k1, k2, k3⟩⟩
  · exact k I2 q2
  · show (match am_hf (fun i => (am_pl tb_G (am_o M) i).2.1) (am_hs M) pc x with
      | some t => x < 4 ∧ _
      | none => am_hs M = [] ∧ _)
    rw [k1]
    exact ⟨rfl, W2, J2, g2, I2, L2, rfl, q2, k2⟩
  · show (match am_hf (fun i => (am_pl tb_G (am_o M) i).2.1) (am_hs M) pc x with
      | some t => x < 4 ∧ _
      | none => am_hs M = [] ∧ _)
    rw [show am_hf (fun i => (am_pl tb_G (am_o M) i).2.1) (am_hs M) pc x = some t from k1]
    exact ⟨k2, k3 I2 q2⟩
theorem b_csQ {i j z t : Nat} {as : List Value} {Q1 : am_O → bw_W → bw_J → Nat → bw_L → Prop} {c2 u2 : Nat} (hm : bm d S R j as W J g L Q1) (hd : decode (am_b M) pc = .ok (.invokestatic i, 3)) (hp : tb_pl (am_o M) i = (2, j, t, z)) (ht : t = 1 ∨ t = 4) (hn : am_np (tb_mt j) ≤ st.length) (ha : (st.take (am_np (tb_mt j))).reverse = as) (hr : st.drop (am_np (tb_mt j)) = r) (h8 : am_w8 r ≤ 8) (hc : c + am_mc (tb_mt j) = c2) (hu : u + am_ms (tb_mt j) = u2) (hc2 : c2 ≤ am_mc M) (hu2 : u2 ≤ am_ms M) (e : pc + 3 = pc2)
    (k : ∀ o W1 J1 g1 L1, Q1 o W1 J1 g1 L1 → (∃ v, o = .inl v ∧ bT d S R M Q pc2 al (v.toList ++ r) W1 J1 g1 L1 c2 u2) ∨ (∃ x, o = .inr x ∧ ((am_hs M = [] ∧ Q (.inr x) W1 J1 g1 L1) ∨ ∃ t, am_hf (fun i => (tb_pl (am_o M) i).2.1) (am_hs M) pc x = some t ∧ x < 4 ∧ bT d S R M Q t al [.ref (S.2.2 + g1)] W1 J1 g1 L1 c2 u2))) : bT d S R M Q pc al st W J g L c u := b_step hd fun I hI => by
  refine ⟨rfl, ?_⟩
  have key := bw_invQ (M := M) (Q := Q) (pc := pc) (al := al) hI h8 hc hu hc2 hu2 hm e k
  subst ha; subst hr
  rcases ht with rfl | rfl
  · rw [show am_pl tb_G (am_o M) i = (2, j, 1, z) from hp]; exact ⟨hn, key⟩
  · rw [show am_pl tb_G (am_o M) i = (2, j, 4, z) from hp]; exact ⟨hn, key⟩
theorem b_cvQ {i j z b : Nat} {as : List Value} {Q1 : am_O → bw_W → bw_J → Nat → bw_L → Prop} {c2 u2 : Nat} (hm : bm d S R j (.ref b :: as) W J g L Q1) (hd : decode (am_b M) pc = .ok (.invokevirtual i, 3)) (hp : tb_pl (am_o M) i = (2, j, 0, z)) (hn : am_np (tb_mt j) ≤ st.length) (ha : (st.take (am_np (tb_mt j))).reverse = as) (hr : st.drop (am_np (tb_mt j)) = .ref b :: r) (hs : S.1 b = some (am_o (tb_mt j), tb_nf (am_o (tb_mt j)))) (h8 : am_w8 r ≤ 8) (hc : c + am_mc (tb_mt j) = c2) (hu : u + am_ms (tb_mt j) = u2) (hc2 : c2 ≤ am_mc M) (hu2 : u2 ≤ am_ms M) (e : pc + 3 = pc2)
    (k : ∀ o W1 J1 g1 L1, Q1 o W1 J1 g1 L1 → (∃ v, o = .inl v ∧ bT d S R M Q pc2 al (v.toList ++ r) W1 J1 g1 L1 c2 u2) ∨ (∃ x, o = .inr x ∧ ((am_hs M = [] ∧ Q (.inr x) W1 J1 g1 L1) ∨ ∃ t, am_hf (fun i => (tb_pl (am_o M) i).2.1) (am_hs M) pc x = some t ∧ x < 4 ∧ bT d S R M Q t al [.ref (S.2.2 + g1)] W1 J1 g1 L1 c2 u2))) : bT d S R M Q pc al st W J g L c u := b_step hd fun I hI => by
  refine ⟨rfl, ?_⟩
  have key := bw_invQ (M := M) (Q := Q) (pc := pc) (al := al) hI h8 hc hu hc2 hu2 hm e k
  subst ha
  rw [show am_pl tb_G (am_o M) i = (2, j, 0, z) from hp]
  refine ⟨hn, ?_⟩
  show am_str (st.drop (am_np (tb_mt j))) _
  rw [hr]
  exact ⟨hs, key⟩
end BW
