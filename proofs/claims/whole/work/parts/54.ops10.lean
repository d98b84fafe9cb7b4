/-! calls that foretell: first, most -/
theorem rng {x : Int32} {a b : Nat} (ha : a < 100000) (hb : b < 100000) (h : ¬ x < nI a ∧ ¬ nI b < x) : ∃ n : Nat, a ≤ n ∧ n ≤ b ∧ x = nI n := by
  obtain ⟨h1, h2⟩ := h
  rw [Int32.lt_iff_toInt_lt, nI_toInt (by omega)] at h1 h2
  refine ⟨x.toInt.toNat, by omega, by omega, Int32.toInt_inj.mp ?_⟩
  rw [nI_toInt (by omega)]
  omega
/-- a plain of the class out of a row of the model's -/
def plOf (a : Nat → Int32) : Mm := fun j k => if j = 0 then (if k = 6 then a 0 else if k = 7 then a 1 else if k = 8 then a 2 else if k = 9 then a 3 else if k = 10 then a 4 else 0) else if j = 1 then a (5 + k) else if j = 2 then a (26 + k) else if j = 3 then a (12 + k) else if j = 4 then a (19 + k) else a (33 + k)
theorem plOf_t {N : Nat} {a : Nat → Int32} (h : a 2 = nI N) : triQ N (plOf a) a (fun _ => True) := ⟨⟨rfl, rfl, rfl, rfl, rfl, fun _ _ => ⟨rfl, rfl, rfl, rfl⟩, fun _ _ _ => rfl⟩, h, Or.inl rfl⟩
theorem liM_c {N k v : Nat} {a a' : Nat → Int32} (h7 : N ≤ 7) (h2 : a 2 = nI N) (h : ∀ j, j < 40 → a' j = a j) : (liM N k v a').1 = (liM N k v a).1 := by
  rw [← tri_fs h7 k v _ _ (plOf_t h2), ← tri_fs h7 k v _ _ (tri_a h7 h (plOf_t h2))]
theorem gosM_c {N n : Nat} {a a' : Nat → Int32} (h7 : N ≤ 7) (h2 : a 2 = nI N) (h : ∀ j, j < 40 → a' j = a j) {w : Nat} (hw : w < N) : gosM N n a' (33 + w) = gosM N n a (33 + w) := by
  have t1 := tri_days h7 n _ _ (plOf_t h2)
  have t2 := tri_days h7 n _ _ (tri_a h7 h (plOf_t h2))
  rw [← t1.1.2.2.2.2.2.2 w hw trivial, ← t2.1.2.2.2.2.2.2 w hw trivial]
theorem cpA_j (f g : Nat → Int32) {j : Nat} (h : j < 40) : cpA f g j = f j := by
  unfold cpA va_cpy
  rw [if_pos (by omega)]
  congr 1
  omega
/-- the model's scratch -/
def scM (m m' : Mm) : Prop := ∀ o, o < 209 → m' o = m o
theorem scM_r (m : Mm) : scM m m := fun _ _ => rfl
theorem scM_210 {m m1 : Mm} (f : Nat → Int32) (h : scM m m1) : scM m (setR m1 210 f) := fun o ho => (setR_n _ _ (by omega)).trans (h o ho)
theorem scM_211 {m m1 : Mm} (f : Nat → Int32) (h : scM m m1) : scM m (setR m1 211 f) := fun o ho => (setR_n _ _ (by omega)).trans (h o ho)
theorem scM_t {m m1 m2 : Mm} (h1 : scM m m1) (h2 : scM m1 m2) : scM m m2 := fun o ho => (h2 o ho).trans (h1 o ho)
theorem RR_sc {m m1 m2 : Mm} (h : RR m) (h1 : scr m m1) (h2 : scM m1 m2) : RR m2 := RR_scr (fun o ho => (h2 o (by omega)).trans (h1 o (by omega))) h
theorem tri_n {N : Nat} {q : Mm} {a : Nat → Int32} {L : Nat → Prop} (x : Int32) (h7 : N ≤ 7) (h : triQ N q a L) : triQ N (setR q 0 (upd (q 0) 6 x)) (upd a 0 x) L := by
  obtain ⟨⟨e0, e1, e2, e3, e4, e5, e6⟩, e7, e8⟩ := h
  have o : ∀ j, j ≠ 0 → upd a 0 x j = a j := fun j hj => upd_n _ _ hj
  refine ⟨⟨?_, ?_, ?_, ?_, ?_, fun v hv => ⟨?_, ?_, ?_, ?_⟩, fun v hv hl => ?_⟩, e7, e8⟩
  · rfl
  · rw [o 1 (by decide)]; exact e1
  · rw [o 2 (by decide)]; exact e2
  · rw [o 3 (by decide)]; exact e3
  · rw [o 4 (by decide)]; exact e4
  · rw [o _ (by omega)]; exact (e5 v hv).1
  · rw [o _ (by omega)]; exact (e5 v hv).2.1
  · rw [o _ (by omega)]; exact (e5 v hv).2.2.1
  · rw [o _ (by omega)]; exact (e5 v hv).2.2.2
  · rw [o _ (by omega)]; exact e6 v hv hl
theorem p_first {K : Cx} {σ : Sg} (hw : WF σ) (x : Int32) : PAIR K σ YX5_first YX6_first [.int x] := by
  intro m l h
  obtain ⟨wN, wR, wT, wA, wL, wM, wI⟩ := hw
  have hM := wM
  have hN := wN
  obtain ⟨H0, F0, F1, F2, F3, F4, F5, F6, F7, P33, P39, P45⟩ := wN
  obtain ⟨M0, R0, R1, R2, R4, R8, R10, R11, R12, R14, R20, R21, R22, A200, L200, A201, L201, A202, L202, A203, L203, A204, L204, A205, L205, A206, L206, A207, L207, A208, L208, A209, L209, A210, L210, A211, L211⟩ := wM
  obtain ⟨N, X, A, h7, hn, hb, ht, hz, hX, hA, a1, a2, a3, ha⟩ := h.2.2.2.2.1
  have modb : ∀ r, ((m 199 7 = 0 ∧ r = -1000002) ∨ (m 199 7 ≠ 0 ∧ ¬ (¬ x < 1 ∧ ¬ 60 < x) ∧ r = -1000001)) → CT K 12 YX6_first [.ref 199, .int x] σ m l (fun r' σ2 m2 l2 => σ2 = σ ∧ r' = r ∧ RR m2) := by
    intro r hr
    refine kX6_first ?_
    simp only [xX6_first_0, xX6_first_1, xX6_first_4, xX6_first_7, xX6_first_9, xX6_first_10, xX6_first_11, xX6_first_12, xX6_first_13, xX6_first_16, xX6_first_19, xX6_first_22, xX6_first_24, xX6_first_25, xX6_first_26, xX6_first_29, xX6_first_30, xX6_first_31, xX6_first_34, Bool.false_eq_true, if_true, if_false, kl_i, kl_a, kl_s, kl_u, kl_l, okS_nil, okS_cons, cat_i, cat_a, cat_s, cat_l, Nat.reduceAdd, Nat.reduceLeDiff, Nat.reduceSub, Nat.sub_zero, Nat.sub_self, Nat.zero_add, Nat.le_refl, Nat.zero_le, List.length_cons, List.length_nil, true_and, and_true, true_or, or_true, eq_self, forall_const, true_implies, not_true_eq_false, not_false_eq_true, false_implies, implies_true, false_and, and_false, false_or, or_false, M0]
    rcases hr with ⟨g1, g2⟩ | ⟨g1, g2, g3⟩
    · exact ⟨fun _ => ⟨g2.symm, h⟩, fun g => absurd g1 g⟩
    · refine ⟨fun g => absurd g g1, fun _ => ?_⟩
      refine t_inI (a := 1) (b := 60) (by decide) (by decide) ?_
      rw [if_neg g2]
      simp only [xX6_first_0, xX6_first_1, xX6_first_4, xX6_first_7, xX6_first_9, xX6_first_10, xX6_first_11, xX6_first_12, xX6_first_13, xX6_first_16, xX6_first_19, xX6_first_22, xX6_first_24, xX6_first_25, xX6_first_26, xX6_first_29, xX6_first_30, xX6_first_31, xX6_first_34, Bool.false_eq_true, if_true, if_false, kl_i, kl_a, kl_s, kl_u, kl_l, okS_nil, okS_cons, cat_i, cat_a, cat_s, cat_l, Nat.reduceAdd, Nat.reduceLeDiff, Nat.reduceSub, Nat.sub_zero, Nat.sub_self, Nat.zero_add, Nat.le_refl, Nat.zero_le, List.length_cons, List.length_nil, true_and, and_true, true_or, or_true, eq_self, forall_const, true_implies, not_true_eq_false, not_false_eq_true, false_implies, implies_true, false_and, and_false, false_or, or_false, M0]
      exact ⟨g3.symm, h⟩
  refine kX5_first ?_
  simp only [xX5_first_0, xX5_first_1, xX5_first_4, xX5_first_7, xX5_first_10, xX5_first_12, xX5_first_13, xX5_first_14, xX5_first_15, xX5_first_18, xX5_first_19, xX5_first_21, xX5_first_24, xX5_first_26, xX5_first_27, xX5_first_28, xX5_first_31, xX5_first_32, xX5_first_35, xX5_first_36, xX5_first_39, Bool.false_eq_true, if_true, if_false, kl_i, kl_a, kl_s, kl_u, kl_l, okS_nil, okS_cons, cat_i, cat_a, cat_s, cat_l, Nat.reduceAdd, Nat.reduceLeDiff, Nat.reduceSub, Nat.sub_zero, Nat.sub_self, Nat.zero_add, Nat.le_refl, Nat.zero_le, List.length_cons, List.length_nil, true_and, and_true, true_or, or_true, eq_self, forall_const, true_implies, not_true_eq_false, not_false_eq_true, false_implies, implies_true, false_and, and_false, false_or, or_false, H0, F0, F1, F2, F3, F4, F5, F6, F7, P33.1, P39.1, P45.1]
  rw [ht]
  refine ⟨fun g => modb _ (Or.inl ⟨g, rfl⟩), fun g0 => ?_⟩
  by_cases hx0 : x < 1
  · exact ⟨fun _ => modb _ (Or.inr ⟨g0, fun g => g.1 hx0, rfl⟩), fun g => absurd hx0 g⟩
  refine ⟨fun g => absurd g hx0, fun _ => ?_⟩
  by_cases hx1 : 60 < x
  · exact ⟨fun _ => modb _ (Or.inr ⟨g0, fun g => g.2 hx1, rfl⟩), fun g => absurd hx1 g⟩
  refine ⟨fun g => absurd g hx1, fun _ => ?_⟩
  obtain ⟨n, n1, n2, e⟩ := rng (a := 1) (b := 60) (by omega) (by omega) ⟨hx0, hx1⟩
  subst e
  refine t_start hN h7 hn (scr_r m) (a' := cpA (m 204) (m 210)) (L := fun _ => False) (fun j hj => cpA_j _ _ (by omega)) (fun _ _ g => g.elim) (fun q ht => ?_)
  simp only [xX5_first_0, xX5_first_1, xX5_first_4, xX5_first_7, xX5_first_10, xX5_first_12, xX5_first_13, xX5_first_14, xX5_first_15, xX5_first_18, xX5_first_19, xX5_first_21, xX5_first_24, xX5_first_26, xX5_first_27, xX5_first_28, xX5_first_31, xX5_first_32, xX5_first_35, xX5_first_36, xX5_first_39, Bool.false_eq_true, if_true, if_false, kl_i, kl_a, kl_s, kl_u, kl_l, okS_nil, okS_cons, cat_i, cat_a, cat_s, cat_l, Nat.reduceAdd, Nat.reduceLeDiff, Nat.reduceSub, Nat.sub_zero, Nat.sub_self, Nat.zero_add, Nat.le_refl, Nat.zero_le, List.length_cons, List.length_nil, true_and, and_true, true_or, or_true, eq_self, forall_const, true_implies, not_true_eq_false, not_false_eq_true, false_implies, implies_true, false_and, and_false, false_or, or_false, H0, F0, F1, F2, F3, F4, F5, F6, F7, P33.1, P39.1, P45.1]
  refine t_firstLack P45 ht.2.1 h7 (by omega) ?_
  rw [tri_fs h7 n 0 _ _ ht]
  have e199 : ∀ q, putP m 45 q 199 = m 199 := fun q => putP_o _ _ (by omega)
  have e204 : ∀ q, putP m 45 q 204 = m 204 := fun q => putP_o _ _ (by omega)
  have e210 : ∀ q, putP m 45 q 210 = m 210 := fun q => putP_o _ _ (by omega)
  refine ⟨rfl, kX6_first ?_⟩
  simp only [xX6_first_0, xX6_first_1, xX6_first_4, xX6_first_7, xX6_first_9, xX6_first_10, xX6_first_11, xX6_first_12, xX6_first_13, xX6_first_16, xX6_first_19, xX6_first_22, xX6_first_24, xX6_first_25, xX6_first_26, xX6_first_29, xX6_first_30, xX6_first_31, xX6_first_34, Bool.false_eq_true, if_true, if_false, kl_i, kl_a, kl_s, kl_u, kl_l, okS_nil, okS_cons, cat_i, cat_a, cat_s, cat_l, Nat.reduceAdd, Nat.reduceLeDiff, Nat.reduceSub, Nat.sub_zero, Nat.sub_self, Nat.zero_add, Nat.le_refl, Nat.zero_le, List.length_cons, List.length_nil, true_and, and_true, true_or, or_true, eq_self, forall_const, true_implies, not_true_eq_false, not_false_eq_true, false_implies, implies_true, false_and, and_false, false_or, or_false, M0, e199]
  refine ⟨fun g => absurd g g0, fun _ => ?_⟩
  refine t_inI (a := 1) (b := 60) (by decide) (by decide) ?_
  rw [if_pos ⟨hx0, hx1⟩]
  simp only [xX6_first_0, xX6_first_1, xX6_first_4, xX6_first_7, xX6_first_9, xX6_first_10, xX6_first_11, xX6_first_12, xX6_first_13, xX6_first_16, xX6_first_19, xX6_first_22, xX6_first_24, xX6_first_25, xX6_first_26, xX6_first_29, xX6_first_30, xX6_first_31, xX6_first_34, Bool.false_eq_true, if_true, if_false, kl_i, kl_a, kl_s, kl_u, kl_l, okS_nil, okS_cons, cat_i, cat_a, cat_s, cat_l, Nat.reduceAdd, Nat.reduceLeDiff, Nat.reduceSub, Nat.sub_zero, Nat.sub_self, Nat.zero_add, Nat.le_refl, Nat.zero_le, List.length_cons, List.length_nil, true_and, and_true, true_or, or_true, eq_self, forall_const, true_implies, not_true_eq_false, not_false_eq_true, false_implies, implies_true, false_and, and_false, false_or, or_false, M0, i10]
  refine t_tries hM ?_
  simp only [xX6_first_0, xX6_first_1, xX6_first_4, xX6_first_7, xX6_first_9, xX6_first_10, xX6_first_11, xX6_first_12, xX6_first_13, xX6_first_16, xX6_first_19, xX6_first_22, xX6_first_24, xX6_first_25, xX6_first_26, xX6_first_29, xX6_first_30, xX6_first_31, xX6_first_34, Bool.false_eq_true, if_true, if_false, kl_i, kl_a, kl_s, kl_u, kl_l, okS_nil, okS_cons, cat_i, cat_a, cat_s, cat_l, Nat.reduceAdd, Nat.reduceLeDiff, Nat.reduceSub, Nat.sub_zero, Nat.sub_self, Nat.zero_add, Nat.le_refl, Nat.zero_le, List.length_cons, List.length_nil, true_and, and_true, true_or, or_true, eq_self, forall_const, true_implies, not_true_eq_false, not_false_eq_true, false_implies, implies_true, false_and, and_false, false_or, or_false, M0, e204, e210]
  refine t_lacksIn hM h7 (by omega) (by rw [cpA_j _ _ (by omega)]; exact now_2 hn) ?_
  exact ⟨rfl, rfl, RR_sc h (scr_45 _ (scr_r m)) (scM_210 _ (scM_r _))⟩
def pv : Nat → Int32
  | 0 => -1
  | k + 1 => nI k
theorem pv_s : ∀ k : Nat, k < 101 → nI k + -1 = pv k := by decide +kernel
def msM (N n : Nat) (a : Nat → Int32) : Nat → Int32
  | 0 => -1000000
  | k + 1 => if (liM N n 0 (upd a 0 (nI k))).1 = -1000000 then nI k else msM N n a k
theorem l_ms {K : Cx} {d : Nat} {σ : Sg} {m0 : Mm} {l : Ml} {N n : Nat} {a : Nat → Int32} {Q : Rt} (hw : wfN σ) (h7 : N ≤ 7) (hn100 : n ≤ 100) (hn : nowH N m0 a) : ∀ (k : Nat) (m : Mm), k ≤ 100 → scr m0 m → (∀ m', scr m0 m' → Q (msM N n a k) σ m' l) → WX (tX5_most K (d + 5)) Q (30, [.ref 0, .int (nI n), .int (pv k)], [], (0, 0), σ, m, l) := by
  have hw0 := hw
  obtain ⟨H0, F0, F1, F2, F3, F4, F5, F6, F7, P33, P39, P45⟩ := hw
  intro k
  induction k with
  | zero =>
    intro m hk hs hQ
    have c1 : (pv 0 < 0) = True := eq_true (by decide)
    rw [xX5_most_30]
    simp only [xX5_most_0, xX5_most_1, xX5_most_4, xX5_most_7, xX5_most_10, xX5_most_12, xX5_most_13, xX5_most_14, xX5_most_15, xX5_most_18, xX5_most_19, xX5_most_21, xX5_most_24, xX5_most_26, xX5_most_27, xX5_most_29, xX5_most_31, xX5_most_34, xX5_most_35, xX5_most_38, xX5_most_39, xX5_most_42, xX5_most_43, xX5_most_46, xX5_most_47, xX5_most_50, xX5_most_51, xX5_most_54, xX5_most_56, xX5_most_59, xX5_most_60, xX5_most_61, xX5_most_64, xX5_most_67, xX5_most_69, Bool.false_eq_true, if_true, if_false, kl_i, kl_a, kl_s, kl_u, kl_l, okS_nil, okS_cons, cat_i, cat_a, cat_s, cat_l, Nat.reduceAdd, Nat.reduceLeDiff, Nat.reduceSub, Nat.sub_zero, Nat.sub_self, Nat.zero_add, Nat.le_refl, Nat.zero_le, List.length_cons, List.length_nil, true_and, and_true, true_or, or_true, eq_self, forall_const, true_implies, not_true_eq_false, not_false_eq_true, false_implies, implies_true, false_and, and_false, false_or, or_false, c1]
    exact hQ _ hs
  | succ k ih =>
    intro m hk hs hQ
    have c1 : (nI k < 0) = False := eq_false (nI_pos (by omega))
    have ep : pv (k + 1) = nI k := rfl
    rw [xX5_most_30]
    simp only [xX5_most_0, xX5_most_1, xX5_most_4, xX5_most_7, xX5_most_10, xX5_most_12, xX5_most_13, xX5_most_14, xX5_most_15, xX5_most_18, xX5_most_19, xX5_most_21, xX5_most_24, xX5_most_26, xX5_most_27, xX5_most_29, xX5_most_31, xX5_most_34, xX5_most_35, xX5_most_38, xX5_most_39, xX5_most_42, xX5_most_43, xX5_most_46, xX5_most_47, xX5_most_50, xX5_most_51, xX5_most_54, xX5_most_56, xX5_most_59, xX5_most_60, xX5_most_61, xX5_most_64, xX5_most_67, xX5_most_69, Bool.false_eq_true, if_true, if_false, kl_i, kl_a, kl_s, kl_u, kl_l, okS_nil, okS_cons, cat_i, cat_a, cat_s, cat_l, Nat.reduceAdd, Nat.reduceLeDiff, Nat.reduceSub, Nat.sub_zero, Nat.sub_self, Nat.zero_add, Nat.le_refl, Nat.zero_le, List.length_cons, List.length_nil, true_and, and_true, true_or, or_true, eq_self, forall_const, true_implies, not_true_eq_false, not_false_eq_true, false_implies, implies_true, false_and, and_false, false_or, or_false, ep, c1, H0, F0, F1, F2, F3, F4, F5, F6, F7, P33.1, P39.1, P45.1]
    refine t_start hw0 h7 hn hs (a' := a) (L := fun _ => False) (fun _ _ => rfl) (fun _ _ h => h.elim) (fun q ht => ?_)
    simp only [xX5_most_0, xX5_most_1, xX5_most_4, xX5_most_7, xX5_most_10, xX5_most_12, xX5_most_13, xX5_most_14, xX5_most_15, xX5_most_18, xX5_most_19, xX5_most_21, xX5_most_24, xX5_most_26, xX5_most_27, xX5_most_29, xX5_most_31, xX5_most_34, xX5_most_35, xX5_most_38, xX5_most_39, xX5_most_42, xX5_most_43, xX5_most_46, xX5_most_47, xX5_most_50, xX5_most_51, xX5_most_54, xX5_most_56, xX5_most_59, xX5_most_60, xX5_most_61, xX5_most_64, xX5_most_67, xX5_most_69, Bool.false_eq_true, if_true, if_false, kl_i, kl_a, kl_s, kl_u, kl_l, okS_nil, okS_cons, cat_i, cat_a, cat_s, cat_l, Nat.reduceAdd, Nat.reduceLeDiff, Nat.reduceSub, Nat.sub_zero, Nat.sub_self, Nat.zero_add, Nat.le_refl, Nat.zero_le, List.length_cons, List.length_nil, true_and, and_true, true_or, or_true, eq_self, forall_const, true_implies, not_true_eq_false, not_false_eq_true, false_implies, implies_true, false_and, and_false, false_or, or_false, H0, F0, F1, F2, F3, F4, F5, F6, F7, P33.1, P39.1, P45.1, vputP_0]
    have ht4 := tri_n (nI k) h7 ht
    refine t_firstLack P45 ht4.2.1 h7 hn100 ?_
    rw [tri_fs h7 n 0 _ _ ht4]
    simp only [msM] at hQ
    by_cases ho : (liM N n 0 (upd a 0 (nI k))).1 = -1000000
    · simp only [ho, xX5_most_0, xX5_most_1, xX5_most_4, xX5_most_7, xX5_most_10, xX5_most_12, xX5_most_13, xX5_most_14, xX5_most_15, xX5_most_18, xX5_most_19, xX5_most_21, xX5_most_24, xX5_most_26, xX5_most_27, xX5_most_29, xX5_most_31, xX5_most_34, xX5_most_35, xX5_most_38, xX5_most_39, xX5_most_42, xX5_most_43, xX5_most_46, xX5_most_47, xX5_most_50, xX5_most_51, xX5_most_54, xX5_most_56, xX5_most_59, xX5_most_60, xX5_most_61, xX5_most_64, xX5_most_67, xX5_most_69, Bool.false_eq_true, if_true, if_false, kl_i, kl_a, kl_s, kl_u, kl_l, okS_nil, okS_cons, cat_i, cat_a, cat_s, cat_l, Nat.reduceAdd, Nat.reduceLeDiff, Nat.reduceSub, Nat.sub_zero, Nat.sub_self, Nat.zero_add, Nat.le_refl, Nat.zero_le, List.length_cons, List.length_nil, true_and, and_true, true_or, or_true, eq_self, forall_const, true_implies, not_true_eq_false, not_false_eq_true, false_implies, implies_true, false_and, and_false, false_or, or_false] at hQ ⊢
      exact hQ _ (scr_45 _ hs)
    · simp only [ho, xX5_most_0, xX5_most_1, xX5_most_4, xX5_most_7, xX5_most_10, xX5_most_12, xX5_most_13, xX5_most_14, xX5_most_15, xX5_most_18, xX5_most_19, xX5_most_21, xX5_most_24, xX5_most_26, xX5_most_27, xX5_most_29, xX5_most_31, xX5_most_34, xX5_most_35, xX5_most_38, xX5_most_39, xX5_most_42, xX5_most_43, xX5_most_46, xX5_most_47, xX5_most_50, xX5_most_51, xX5_most_54, xX5_most_56, xX5_most_59, xX5_most_60, xX5_most_61, xX5_most_64, xX5_most_67, xX5_most_69, Bool.false_eq_true, if_true, if_false, kl_i, kl_a, kl_s, kl_u, kl_l, okS_nil, okS_cons, cat_i, cat_a, cat_s, cat_l, Nat.reduceAdd, Nat.reduceLeDiff, Nat.reduceSub, Nat.sub_zero, Nat.sub_self, Nat.zero_add, Nat.le_refl, Nat.zero_le, List.length_cons, List.length_nil, true_and, and_true, true_or, or_true, eq_self, forall_const, true_implies, not_true_eq_false, not_false_eq_true, false_implies, implies_true, false_and, and_false, false_or, or_false, pv_s k (by omega)] at hQ ⊢
      exact ih _ (by omega) (scr_45 _ hs) hQ
theorem l_mms {K : Cx} {d : Nat} {σ : Sg} {m0 : Mm} {l : Ml} {N n : Nat} {Q : Rt} (hm : wfM σ) (h7 : N ≤ 7) (hn100 : n ≤ 100) (h2 : m0 204 2 = nI N) : ∀ (k : Nat) (m : Mm), k ≤ 100 → scM m0 m → (∀ m', scM m0 m' → Q (msM N n (m0 204) k) σ m' l) → WX (tX6_most K (d + 4)) Q (28, [.ref 199, .int (nI n), .int (pv k)], [], (0, 0), σ, m, l) := by
  have hm0 := hm
  obtain ⟨M0, R0, R1, R2, R4, R8, R10, R11, R12, R14, R20, R21, R22, A200, L200, A201, L201, A202, L202, A203, L203, A204, L204, A205, L205, A206, L206, A207, L207, A208, L208, A209, L209, A210, L210, A211, L211⟩ := hm
  intro k
  induction k with
  | zero =>
    intro m hk hs hQ
    have c1 : (pv 0 < 0) = True := eq_true (by decide)
    rw [xX6_most_28]
    simp only [xX6_most_0, xX6_most_1, xX6_most_4, xX6_most_7, xX6_most_9, xX6_most_10, xX6_most_11, xX6_most_12, xX6_most_13, xX6_most_16, xX6_most_19, xX6_most_22, xX6_most_24, xX6_most_25, xX6_most_27, xX6_most_29, xX6_most_32, xX6_most_33, xX6_most_36, xX6_most_37, xX6_most_40, xX6_most_41, xX6_most_42, xX6_most_43, xX6_most_44, xX6_most_45, xX6_most_48, xX6_most_50, xX6_most_53, xX6_most_54, xX6_most_55, xX6_most_58, xX6_most_61, xX6_most_63, Bool.false_eq_true, if_true, if_false, kl_i, kl_a, kl_s, kl_u, kl_l, okS_nil, okS_cons, cat_i, cat_a, cat_s, cat_l, Nat.reduceAdd, Nat.reduceLeDiff, Nat.reduceSub, Nat.sub_zero, Nat.sub_self, Nat.zero_add, Nat.le_refl, Nat.zero_le, List.length_cons, List.length_nil, true_and, and_true, true_or, or_true, eq_self, forall_const, true_implies, not_true_eq_false, not_false_eq_true, false_implies, implies_true, false_and, and_false, false_or, or_false, c1]
    exact hQ _ hs
  | succ k ih =>
    intro m hk hs hQ
    have c1 : (nI k < 0) = False := eq_false (nI_pos (by omega))
    have ep : pv (k + 1) = nI k := rfl
    rw [xX6_most_28]
    simp only [xX6_most_0, xX6_most_1, xX6_most_4, xX6_most_7, xX6_most_9, xX6_most_10, xX6_most_11, xX6_most_12, xX6_most_13, xX6_most_16, xX6_most_19, xX6_most_22, xX6_most_24, xX6_most_25, xX6_most_27, xX6_most_29, xX6_most_32, xX6_most_33, xX6_most_36, xX6_most_37, xX6_most_40, xX6_most_41, xX6_most_42, xX6_most_43, xX6_most_44, xX6_most_45, xX6_most_48, xX6_most_50, xX6_most_53, xX6_most_54, xX6_most_55, xX6_most_58, xX6_most_61, xX6_most_63, Bool.false_eq_true, if_true, if_false, kl_i, kl_a, kl_s, kl_u, kl_l, okS_nil, okS_cons, cat_i, cat_a, cat_s, cat_l, Nat.reduceAdd, Nat.reduceLeDiff, Nat.reduceSub, Nat.sub_zero, Nat.sub_self, Nat.zero_add, Nat.le_refl, Nat.zero_le, List.length_cons, List.length_nil, true_and, and_true, true_or, or_true, eq_self, forall_const, true_implies, not_true_eq_false, not_false_eq_true, false_implies, implies_true, false_and, and_false, false_or, or_false, ep, c1, M0]
    refine t_tries hm0 ?_
    have e204 : m 204 = m0 204 := hs 204 (by omega)
    rw [e204]
    simp only [xX6_most_0, xX6_most_1, xX6_most_4, xX6_most_7, xX6_most_9, xX6_most_10, xX6_most_11, xX6_most_12, xX6_most_13, xX6_most_16, xX6_most_19, xX6_most_22, xX6_most_24, xX6_most_25, xX6_most_27, xX6_most_29, xX6_most_32, xX6_most_33, xX6_most_36, xX6_most_37, xX6_most_40, xX6_most_41, xX6_most_42, xX6_most_43, xX6_most_44, xX6_most_45, xX6_most_48, xX6_most_50, xX6_most_53, xX6_most_54, xX6_most_55, xX6_most_58, xX6_most_61, xX6_most_63, Bool.false_eq_true, if_true, if_false, kl_i, kl_a, kl_s, kl_u, kl_l, okS_nil, okS_cons, cat_i, cat_a, cat_s, cat_l, Nat.reduceAdd, Nat.reduceLeDiff, Nat.reduceSub, Nat.sub_zero, Nat.sub_self, Nat.zero_add, Nat.le_refl, Nat.zero_le, List.length_cons, List.length_nil, true_and, and_true, true_or, or_true, eq_self, forall_const, true_implies, not_true_eq_false, not_false_eq_true, false_implies, implies_true, false_and, and_false, false_or, or_false, M0, R21, A210, L210, cl0, vi0, upM_setR, setR_s, setR_setR]
    have hj : ∀ j, j < 40 → upd (cpA (m0 204) (m 210)) 0 (nI k) j = upd (m0 204) 0 (nI k) j := fun j hj => by
      unfold upd
      split
      · rfl
      · exact cpA_j _ _ hj
    have hu2 : upd (m0 204) 0 (nI k) 2 = nI N := by rw [upd_n _ _ (by decide)]; exact h2
    refine t_lacksIn hm0 h7 hn100 (by rw [hj 2 (by omega)]; exact hu2) ?_
    rw [liM_c h7 hu2 hj]
    simp only [msM] at hQ
    by_cases ho : (liM N n 0 (upd (m0 204) 0 (nI k))).1 = -1000000
    · simp only [ho, xX6_most_0, xX6_most_1, xX6_most_4, xX6_most_7, xX6_most_9, xX6_most_10, xX6_most_11, xX6_most_12, xX6_most_13, xX6_most_16, xX6_most_19, xX6_most_22, xX6_most_24, xX6_most_25, xX6_most_27, xX6_most_29, xX6_most_32, xX6_most_33, xX6_most_36, xX6_most_37, xX6_most_40, xX6_most_41, xX6_most_42, xX6_most_43, xX6_most_44, xX6_most_45, xX6_most_48, xX6_most_50, xX6_most_53, xX6_most_54, xX6_most_55, xX6_most_58, xX6_most_61, xX6_most_63, Bool.false_eq_true, if_true, if_false, kl_i, kl_a, kl_s, kl_u, kl_l, okS_nil, okS_cons, cat_i, cat_a, cat_s, cat_l, Nat.reduceAdd, Nat.reduceLeDiff, Nat.reduceSub, Nat.sub_zero, Nat.sub_self, Nat.zero_add, Nat.le_refl, Nat.zero_le, List.length_cons, List.length_nil, true_and, and_true, true_or, or_true, eq_self, forall_const, true_implies, not_true_eq_false, not_false_eq_true, false_implies, implies_true, false_and, and_false, false_or, or_false] at hQ ⊢
      exact hQ _ (scM_210 _ hs)
    · simp only [ho, xX6_most_0, xX6_most_1, xX6_most_4, xX6_most_7, xX6_most_9, xX6_most_10, xX6_most_11, xX6_most_12, xX6_most_13, xX6_most_16, xX6_most_19, xX6_most_22, xX6_most_24, xX6_most_25, xX6_most_27, xX6_most_29, xX6_most_32, xX6_most_33, xX6_most_36, xX6_most_37, xX6_most_40, xX6_most_41, xX6_most_42, xX6_most_43, xX6_most_44, xX6_most_45, xX6_most_48, xX6_most_50, xX6_most_53, xX6_most_54, xX6_most_55, xX6_most_58, xX6_most_61, xX6_most_63, Bool.false_eq_true, if_true, if_false, kl_i, kl_a, kl_s, kl_u, kl_l, okS_nil, okS_cons, cat_i, cat_a, cat_s, cat_l, Nat.reduceAdd, Nat.reduceLeDiff, Nat.reduceSub, Nat.sub_zero, Nat.sub_self, Nat.zero_add, Nat.le_refl, Nat.zero_le, List.length_cons, List.length_nil, true_and, and_true, true_or, or_true, eq_self, forall_const, true_implies, not_true_eq_false, not_false_eq_true, false_implies, implies_true, false_and, and_false, false_or, or_false, pv_s k (by omega)] at hQ ⊢
      exact ih _ (by omega) (scM_210 _ hs) hQ
theorem p_most {K : Cx} {σ : Sg} (hw : WF σ) (x : Int32) : PAIR K σ YX5_most YX6_most [.int x] := by
  intro m l h
  obtain ⟨wN, wR, wT, wA, wL, wM, wI⟩ := hw
  have hM := wM
  have hN := wN
  obtain ⟨H0, F0, F1, F2, F3, F4, F5, F6, F7, P33, P39, P45⟩ := wN
  obtain ⟨M0, R0, R1, R2, R4, R8, R10, R11, R12, R14, R20, R21, R22, A200, L200, A201, L201, A202, L202, A203, L203, A204, L204, A205, L205, A206, L206, A207, L207, A208, L208, A209, L209, A210, L210, A211, L211⟩ := wM
  obtain ⟨N, X, A, h7, hn, hb, ht, hz, hX, hA, a1, a2, a3, ha⟩ := h.2.2.2.2.1
  have modb : ∀ r, ((m 199 7 = 0 ∧ r = -1000002) ∨ (m 199 7 ≠ 0 ∧ ¬ (¬ x < 1 ∧ ¬ 20 < x) ∧ r = -1000001)) → CT K 12 YX6_most [.ref 199, .int x] σ m l (fun r' σ2 m2 l2 => σ2 = σ ∧ r' = r ∧ RR m2) := by
    intro r hr
    refine kX6_most ?_
    simp only [xX6_most_0, xX6_most_1, xX6_most_4, xX6_most_7, xX6_most_9, xX6_most_10, xX6_most_11, xX6_most_12, xX6_most_13, xX6_most_16, xX6_most_19, xX6_most_22, xX6_most_24, xX6_most_25, xX6_most_27, Bool.false_eq_true, if_true, if_false, kl_i, kl_a, kl_s, kl_u, kl_l, okS_nil, okS_cons, cat_i, cat_a, cat_s, cat_l, Nat.reduceAdd, Nat.reduceLeDiff, Nat.reduceSub, Nat.sub_zero, Nat.sub_self, Nat.zero_add, Nat.le_refl, Nat.zero_le, List.length_cons, List.length_nil, true_and, and_true, true_or, or_true, eq_self, forall_const, true_implies, not_true_eq_false, not_false_eq_true, false_implies, implies_true, false_and, and_false, false_or, or_false, M0]
    rcases hr with ⟨g1, g2⟩ | ⟨g1, g2, g3⟩
    · exact ⟨fun _ => ⟨g2.symm, h⟩, fun g => absurd g1 g⟩
    · refine ⟨fun g => absurd g g1, fun _ => ?_⟩
      refine t_inI (a := 1) (b := 20) (by decide) (by decide) ?_
      rw [if_neg g2]
      simp only [xX6_most_0, xX6_most_1, xX6_most_4, xX6_most_7, xX6_most_9, xX6_most_10, xX6_most_11, xX6_most_12, xX6_most_13, xX6_most_16, xX6_most_19, xX6_most_22, xX6_most_24, xX6_most_25, xX6_most_27, Bool.false_eq_true, if_true, if_false, kl_i, kl_a, kl_s, kl_u, kl_l, okS_nil, okS_cons, cat_i, cat_a, cat_s, cat_l, Nat.reduceAdd, Nat.reduceLeDiff, Nat.reduceSub, Nat.sub_zero, Nat.sub_self, Nat.zero_add, Nat.le_refl, Nat.zero_le, List.length_cons, List.length_nil, true_and, and_true, true_or, or_true, eq_self, forall_const, true_implies, not_true_eq_false, not_false_eq_true, false_implies, implies_true, false_and, and_false, false_or, or_false, M0]
      exact ⟨g3.symm, h⟩
  refine kX5_most ?_
  simp only [xX5_most_0, xX5_most_1, xX5_most_4, xX5_most_7, xX5_most_10, xX5_most_12, xX5_most_13, xX5_most_14, xX5_most_15, xX5_most_18, xX5_most_19, xX5_most_21, xX5_most_24, xX5_most_26, xX5_most_27, xX5_most_29, Bool.false_eq_true, if_true, if_false, kl_i, kl_a, kl_s, kl_u, kl_l, okS_nil, okS_cons, cat_i, cat_a, cat_s, cat_l, Nat.reduceAdd, Nat.reduceLeDiff, Nat.reduceSub, Nat.sub_zero, Nat.sub_self, Nat.zero_add, Nat.le_refl, Nat.zero_le, List.length_cons, List.length_nil, true_and, and_true, true_or, or_true, eq_self, forall_const, true_implies, not_true_eq_false, not_false_eq_true, false_implies, implies_true, false_and, and_false, false_or, or_false, H0, F0, F1, F2, F3, F4, F5, F6, F7, P33.1, P39.1, P45.1]
  rw [ht]
  refine ⟨fun g => modb _ (Or.inl ⟨g, rfl⟩), fun g0 => ?_⟩
  by_cases hx0 : x < 1
  · exact ⟨fun _ => modb _ (Or.inr ⟨g0, fun g => g.1 hx0, rfl⟩), fun g => absurd hx0 g⟩
  refine ⟨fun g => absurd g hx0, fun _ => ?_⟩
  by_cases hx1 : 20 < x
  · exact ⟨fun _ => modb _ (Or.inr ⟨g0, fun g => g.2 hx1, rfl⟩), fun g => absurd hx1 g⟩
  refine ⟨fun g => absurd g hx1, fun _ => ?_⟩
  obtain ⟨n, n1, n2, e⟩ := rng (a := 1) (b := 20) (by omega) (by omega) ⟨hx0, hx1⟩
  subst e
  refine l_ms (d := 6) hN h7 (by omega) hn 100 m (by omega) (scr_r m) (fun m1 hs1 => ?_)
  have e199 : m1 199 = m 199 := hs1 199 (by omega)
  have e204 : m1 204 = m 204 := hs1 204 (by omega)
  refine ⟨rfl, kX6_most ?_⟩
  simp only [xX6_most_0, xX6_most_1, xX6_most_4, xX6_most_7, xX6_most_9, xX6_most_10, xX6_most_11, xX6_most_12, xX6_most_13, xX6_most_16, xX6_most_19, xX6_most_22, xX6_most_24, xX6_most_25, xX6_most_27, Bool.false_eq_true, if_true, if_false, kl_i, kl_a, kl_s, kl_u, kl_l, okS_nil, okS_cons, cat_i, cat_a, cat_s, cat_l, Nat.reduceAdd, Nat.reduceLeDiff, Nat.reduceSub, Nat.sub_zero, Nat.sub_self, Nat.zero_add, Nat.le_refl, Nat.zero_le, List.length_cons, List.length_nil, true_and, and_true, true_or, or_true, eq_self, forall_const, true_implies, not_true_eq_false, not_false_eq_true, false_implies, implies_true, false_and, and_false, false_or, or_false, M0, e199]
  refine ⟨fun g => absurd g g0, fun _ => ?_⟩
  refine t_inI (a := 1) (b := 20) (by decide) (by decide) ?_
  rw [if_pos ⟨hx0, hx1⟩]
  simp only [xX6_most_0, xX6_most_1, xX6_most_4, xX6_most_7, xX6_most_9, xX6_most_10, xX6_most_11, xX6_most_12, xX6_most_13, xX6_most_16, xX6_most_19, xX6_most_22, xX6_most_24, xX6_most_25, xX6_most_27, Bool.false_eq_true, if_true, if_false, kl_i, kl_a, kl_s, kl_u, kl_l, okS_nil, okS_cons, cat_i, cat_a, cat_s, cat_l, Nat.reduceAdd, Nat.reduceLeDiff, Nat.reduceSub, Nat.sub_zero, Nat.sub_self, Nat.zero_add, Nat.le_refl, Nat.zero_le, List.length_cons, List.length_nil, true_and, and_true, true_or, or_true, eq_self, forall_const, true_implies, not_true_eq_false, not_false_eq_true, false_implies, implies_true, false_and, and_false, false_or, or_false, M0, i10]
  refine l_mms (d := 7) (m0 := m1) hM h7 (by omega) (by rw [e204]; exact now_2 hn) 100 m1 (by omega) (scM_r _) (fun m2 hs2 => ?_)
  rw [e204]
  exact ⟨rfl, rfl, RR_sc h hs1 hs2⟩
