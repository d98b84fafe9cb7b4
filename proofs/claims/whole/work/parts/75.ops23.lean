/-! calls that foretell: drew -/
theorem p_drew {K : Cx} {σ : Sg} (hw : WF σ) (x y : Int32) : PAIR K σ YX5_drew YX6_drew [.int x, .int y] := by
  intro m l h
  obtain ⟨wN, wR, wT, wA, wL, wM, wI⟩ := hw
  have hM := wM
  have hN := wN
  obtain ⟨H0, F0, F1, F2, F3, F4, F5, F6, F7, P33, P39, P45⟩ := wN
  obtain ⟨M0, R0, R1, R2, R4, R8, R10, R11, R12, R14, R20, R21, R22, A200, L200, A201, L201, A202, L202, A203, L203, A204, L204, A205, L205, A206, L206, A207, L207, A208, L208, A209, L209, A210, L210, A211, L211⟩ := wM
  obtain ⟨W1, W2, W3⟩ := wR
  obtain ⟨N, X, A, h7, hn, hb, ht, hz, hX, hA, a1, a2, a3, ha⟩ := h.2.2.2.2.1
  have h8 : m 33 8 = nI N := hn.2.1
  have h2 := now_2 hn
  have modb : ∀ r, ((m 199 7 = 0 ∧ r = -1000002) ∨ (m 199 7 ≠ 0 ∧ (¬ (¬ x < 0 ∧ x < 8) ∨ ¬ (¬ y < 0 ∧ ¬ 1 < y)) ∧ r = -1000001)) → CT K 12 YX6_drew [.ref 199, .int x, .int y] σ m l (fun r' σ2 m2 l2 => σ2 = σ ∧ r' = r ∧ RR m2) := by
    intro r hr
    refine kX6_drew ?_
    simp only [xX6_drew_0, xX6_drew_1, xX6_drew_4, xX6_drew_7, xX6_drew_9, xX6_drew_10, xX6_drew_11, xX6_drew_14, xX6_drew_17, xX6_drew_18, xX6_drew_19, xX6_drew_20, xX6_drew_21, xX6_drew_24, xX6_drew_27, xX6_drew_29, Bool.false_eq_true, if_true, if_false, kl_i, kl_a, kl_s, kl_u, kl_l, okS_nil, okS_cons, cat_i, cat_a, cat_s, cat_l, Nat.reduceAdd, Nat.reduceLeDiff, Nat.reduceSub, Nat.sub_zero, Nat.sub_self, Nat.zero_add, Nat.le_refl, Nat.zero_le, List.length_cons, List.length_nil, true_and, and_true, true_or, or_true, eq_self, forall_const, true_implies, not_true_eq_false, not_false_eq_true, false_implies, implies_true, false_and, and_false, false_or, or_false, M0]
    rcases hr with ⟨g1, g2⟩ | ⟨g1, g2, g3⟩
    · exact ⟨fun _ => ⟨g2.symm, h⟩, fun g => absurd g1 g⟩
    · refine ⟨fun g => absurd g g1, fun _ => ?_⟩
      refine t_mIsRow ?_
      by_cases hx : ¬ x < 0 ∧ x < 8
      · rw [if_pos hx]
        simp only [xX6_drew_0, xX6_drew_1, xX6_drew_4, xX6_drew_7, xX6_drew_9, xX6_drew_10, xX6_drew_11, xX6_drew_14, xX6_drew_17, xX6_drew_18, xX6_drew_19, xX6_drew_20, xX6_drew_21, xX6_drew_24, xX6_drew_27, xX6_drew_29, Bool.false_eq_true, if_true, if_false, kl_i, kl_a, kl_s, kl_u, kl_l, okS_nil, okS_cons, cat_i, cat_a, cat_s, cat_l, Nat.reduceAdd, Nat.reduceLeDiff, Nat.reduceSub, Nat.sub_zero, Nat.sub_self, Nat.zero_add, Nat.le_refl, Nat.zero_le, List.length_cons, List.length_nil, true_and, and_true, true_or, or_true, eq_self, forall_const, true_implies, not_true_eq_false, not_false_eq_true, false_implies, implies_true, false_and, and_false, false_or, or_false, i10]
        refine t_inI (a := 0) (b := 1) (by decide) (by decide) ?_
        rw [if_neg (g2.resolve_left (fun g => g hx))]
        simp only [xX6_drew_0, xX6_drew_1, xX6_drew_4, xX6_drew_7, xX6_drew_9, xX6_drew_10, xX6_drew_11, xX6_drew_14, xX6_drew_17, xX6_drew_18, xX6_drew_19, xX6_drew_20, xX6_drew_21, xX6_drew_24, xX6_drew_27, xX6_drew_29, Bool.false_eq_true, if_true, if_false, kl_i, kl_a, kl_s, kl_u, kl_l, okS_nil, okS_cons, cat_i, cat_a, cat_s, cat_l, Nat.reduceAdd, Nat.reduceLeDiff, Nat.reduceSub, Nat.sub_zero, Nat.sub_self, Nat.zero_add, Nat.le_refl, Nat.zero_le, List.length_cons, List.length_nil, true_and, and_true, true_or, or_true, eq_self, forall_const, true_implies, not_true_eq_false, not_false_eq_true, false_implies, implies_true, false_and, and_false, false_or, or_false, M0]
        exact ⟨g3.symm, h⟩
      · rw [if_neg hx]
        simp only [xX6_drew_0, xX6_drew_1, xX6_drew_4, xX6_drew_7, xX6_drew_9, xX6_drew_10, xX6_drew_11, xX6_drew_14, xX6_drew_17, xX6_drew_18, xX6_drew_19, xX6_drew_20, xX6_drew_21, xX6_drew_24, xX6_drew_27, xX6_drew_29, Bool.false_eq_true, if_true, if_false, kl_i, kl_a, kl_s, kl_u, kl_l, okS_nil, okS_cons, cat_i, cat_a, cat_s, cat_l, Nat.reduceAdd, Nat.reduceLeDiff, Nat.reduceSub, Nat.sub_zero, Nat.sub_self, Nat.zero_add, Nat.le_refl, Nat.zero_le, List.length_cons, List.length_nil, true_and, and_true, true_or, or_true, eq_self, forall_const, true_implies, not_true_eq_false, not_false_eq_true, false_implies, implies_true, false_and, and_false, false_or, or_false, M0]
        exact ⟨g3.symm, h⟩
  refine kX5_drew ?_
  simp only [xX5_drew_0, xX5_drew_1, xX5_drew_4, xX5_drew_7, xX5_drew_10, xX5_drew_12, xX5_drew_13, xX5_drew_14, xX5_drew_17, xX5_drew_20, xX5_drew_21, xX5_drew_24, xX5_drew_25, xX5_drew_26, xX5_drew_29, xX5_drew_31, xX5_drew_32, xX5_drew_33, xX5_drew_36, xX5_drew_37, xX5_drew_38, xX5_drew_41, xX5_drew_44, xX5_drew_45, xX5_drew_46, xX5_drew_49, xX5_drew_50, xX5_drew_51, xX5_drew_54, xX5_drew_55, xX5_drew_56, xX5_drew_57, xX5_drew_58, xX5_drew_61, xX5_drew_64, xX5_drew_67, xX5_drew_70, xX5_drew_71, xX5_drew_72, xX5_drew_75, xX5_drew_76, xX5_drew_77, xX5_drew_78, xX5_drew_81, xX5_drew_82, xX5_drew_85, xX5_drew_86, xX5_drew_87, xX5_drew_90, xX5_drew_91, xX5_drew_92, xX5_drew_95, xX5_drew_98, xX5_drew_99, xX5_drew_100, xX5_drew_103, xX5_drew_104, xX5_drew_105, xX5_drew_108, Bool.false_eq_true, if_true, if_false, kl_i, kl_a, kl_s, kl_u, kl_l, okS_nil, okS_cons, cat_i, cat_a, cat_s, cat_l, Nat.reduceAdd, Nat.reduceLeDiff, Nat.reduceSub, Nat.sub_zero, Nat.sub_self, Nat.zero_add, Nat.le_refl, Nat.zero_le, List.length_cons, List.length_nil, true_and, and_true, true_or, or_true, eq_self, forall_const, true_implies, not_true_eq_false, not_false_eq_true, false_implies, implies_true, false_and, and_false, false_or, or_false, H0, F0, F1, F2, F3, F4, F5, F6, F7, P33.1, P39.1, P45.1]
  rw [ht]
  refine ⟨fun g => modb _ (Or.inl ⟨g, rfl⟩), fun g0 => ?_⟩
  refine t_isRow ?_
  by_cases hx : ¬ (¬ x < 0 ∧ x < 8)
  · rw [if_neg hx]
    simp only [xX5_drew_0, xX5_drew_1, xX5_drew_4, xX5_drew_7, xX5_drew_10, xX5_drew_12, xX5_drew_13, xX5_drew_14, xX5_drew_17, xX5_drew_20, xX5_drew_21, xX5_drew_24, xX5_drew_25, xX5_drew_26, xX5_drew_29, xX5_drew_31, xX5_drew_32, xX5_drew_33, xX5_drew_36, xX5_drew_37, xX5_drew_38, xX5_drew_41, xX5_drew_44, xX5_drew_45, xX5_drew_46, xX5_drew_49, xX5_drew_50, xX5_drew_51, xX5_drew_54, xX5_drew_55, xX5_drew_56, xX5_drew_57, xX5_drew_58, xX5_drew_61, xX5_drew_64, xX5_drew_67, xX5_drew_70, xX5_drew_71, xX5_drew_72, xX5_drew_75, xX5_drew_76, xX5_drew_77, xX5_drew_78, xX5_drew_81, xX5_drew_82, xX5_drew_85, xX5_drew_86, xX5_drew_87, xX5_drew_90, xX5_drew_91, xX5_drew_92, xX5_drew_95, xX5_drew_98, xX5_drew_99, xX5_drew_100, xX5_drew_103, xX5_drew_104, xX5_drew_105, xX5_drew_108, Bool.false_eq_true, if_true, if_false, kl_i, kl_a, kl_s, kl_u, kl_l, okS_nil, okS_cons, cat_i, cat_a, cat_s, cat_l, Nat.reduceAdd, Nat.reduceLeDiff, Nat.reduceSub, Nat.sub_zero, Nat.sub_self, Nat.zero_add, Nat.le_refl, Nat.zero_le, List.length_cons, List.length_nil, true_and, and_true, true_or, or_true, eq_self, forall_const, true_implies, not_true_eq_false, not_false_eq_true, false_implies, implies_true, false_and, and_false, false_or, or_false, H0, F0, F1, F2, F3, F4, F5, F6, F7, P33.1, P39.1, P45.1]
    exact modb _ (Or.inr ⟨g0, Or.inl hx, rfl⟩)
  have hx := Decidable.not_not.mp hx
  rw [if_pos hx]
  obtain ⟨r, hr, e⟩ := row_of hx
  subst e
  obtain ⟨q1, q2⟩ := W3 r hr
  have hcv := clN (v := r) (by omega)
  have hiv := inN (v := r) (n := 8) hr (by omega)
  simp only [xX5_drew_0, xX5_drew_1, xX5_drew_4, xX5_drew_7, xX5_drew_10, xX5_drew_12, xX5_drew_13, xX5_drew_14, xX5_drew_17, xX5_drew_20, xX5_drew_21, xX5_drew_24, xX5_drew_25, xX5_drew_26, xX5_drew_29, xX5_drew_31, xX5_drew_32, xX5_drew_33, xX5_drew_36, xX5_drew_37, xX5_drew_38, xX5_drew_41, xX5_drew_44, xX5_drew_45, xX5_drew_46, xX5_drew_49, xX5_drew_50, xX5_drew_51, xX5_drew_54, xX5_drew_55, xX5_drew_56, xX5_drew_57, xX5_drew_58, xX5_drew_61, xX5_drew_64, xX5_drew_67, xX5_drew_70, xX5_drew_71, xX5_drew_72, xX5_drew_75, xX5_drew_76, xX5_drew_77, xX5_drew_78, xX5_drew_81, xX5_drew_82, xX5_drew_85, xX5_drew_86, xX5_drew_87, xX5_drew_90, xX5_drew_91, xX5_drew_92, xX5_drew_95, xX5_drew_98, xX5_drew_99, xX5_drew_100, xX5_drew_103, xX5_drew_104, xX5_drew_105, xX5_drew_108, Bool.false_eq_true, if_true, if_false, kl_i, kl_a, kl_s, kl_u, kl_l, okS_nil, okS_cons, cat_i, cat_a, cat_s, cat_l, Nat.reduceAdd, Nat.reduceLeDiff, Nat.reduceSub, Nat.sub_zero, Nat.sub_self, Nat.zero_add, Nat.le_refl, Nat.zero_le, List.length_cons, List.length_nil, true_and, and_true, true_or, or_true, eq_self, forall_const, true_implies, not_true_eq_false, not_false_eq_true, false_implies, implies_true, false_and, and_false, false_or, or_false, H0, F0, F1, F2, F3, F4, F5, F6, F7, P33.1, P39.1, P45.1, i10, W1, W2, hcv, hiv, q1, q2.1]
  by_cases hy0 : y < 0
  · exact ⟨fun _ => modb _ (Or.inr ⟨g0, Or.inr (fun g => g.1 hy0), rfl⟩), fun g => absurd hy0 g⟩
  refine ⟨fun g => absurd g hy0, fun _ => ?_⟩
  by_cases hy1 : 1 < y
  · exact ⟨fun _ => modb _ (Or.inr ⟨g0, Or.inr (fun g => g.2 hy1), rfl⟩), fun g => absurd hy1 g⟩
  refine ⟨fun g => absurd g hy1, fun _ => ?_⟩
  have pre : ∀ (m1 : Mm) (Q : Rt), m1 199 = m 199 → WX (tX6_drew K 11) Q (30, [.ref 199, .int (nI r), .int y, .float 0, .float 0, .float 0, .float 0], [], (0, 0), σ, m1, l) → CT K 12 YX6_drew [.ref 199, .int (nI r), .int y] σ m1 l Q := by
    intro m1 Q e9 g
    refine kX6_drew ?_
    simp only [xX6_drew_0, xX6_drew_1, xX6_drew_4, xX6_drew_7, xX6_drew_9, xX6_drew_10, xX6_drew_11, xX6_drew_14, xX6_drew_17, xX6_drew_18, xX6_drew_19, xX6_drew_20, xX6_drew_21, xX6_drew_24, xX6_drew_27, xX6_drew_29, Bool.false_eq_true, if_true, if_false, kl_i, kl_a, kl_s, kl_u, kl_l, okS_nil, okS_cons, cat_i, cat_a, cat_s, cat_l, Nat.reduceAdd, Nat.reduceLeDiff, Nat.reduceSub, Nat.sub_zero, Nat.sub_self, Nat.zero_add, Nat.le_refl, Nat.zero_le, List.length_cons, List.length_nil, true_and, and_true, true_or, or_true, eq_self, forall_const, true_implies, not_true_eq_false, not_false_eq_true, false_implies, implies_true, false_and, and_false, false_or, or_false, M0, e9]
    refine ⟨fun g => absurd g g0, fun _ => ?_⟩
    refine t_mIsRow ?_
    rw [if_pos hx]
    simp only [xX6_drew_0, xX6_drew_1, xX6_drew_4, xX6_drew_7, xX6_drew_9, xX6_drew_10, xX6_drew_11, xX6_drew_14, xX6_drew_17, xX6_drew_18, xX6_drew_19, xX6_drew_20, xX6_drew_21, xX6_drew_24, xX6_drew_27, xX6_drew_29, Bool.false_eq_true, if_true, if_false, kl_i, kl_a, kl_s, kl_u, kl_l, okS_nil, okS_cons, cat_i, cat_a, cat_s, cat_l, Nat.reduceAdd, Nat.reduceLeDiff, Nat.reduceSub, Nat.sub_zero, Nat.sub_self, Nat.zero_add, Nat.le_refl, Nat.zero_le, List.length_cons, List.length_nil, true_and, and_true, true_or, or_true, eq_self, forall_const, true_implies, not_true_eq_false, not_false_eq_true, false_implies, implies_true, false_and, and_false, false_or, or_false, i10]
    refine t_inI (a := 0) (b := 1) (by decide) (by decide) ?_
    rw [if_pos ⟨hy0, hy1⟩]
    simp only [xX6_drew_0, xX6_drew_1, xX6_drew_4, xX6_drew_7, xX6_drew_9, xX6_drew_10, xX6_drew_11, xX6_drew_14, xX6_drew_17, xX6_drew_18, xX6_drew_19, xX6_drew_20, xX6_drew_21, xX6_drew_24, xX6_drew_27, xX6_drew_29, Bool.false_eq_true, if_true, if_false, kl_i, kl_a, kl_s, kl_u, kl_l, okS_nil, okS_cons, cat_i, cat_a, cat_s, cat_l, Nat.reduceAdd, Nat.reduceLeDiff, Nat.reduceSub, Nat.sub_zero, Nat.sub_self, Nat.zero_add, Nat.le_refl, Nat.zero_le, List.length_cons, List.length_nil, true_and, and_true, true_or, or_true, eq_self, forall_const, true_implies, not_true_eq_false, not_false_eq_true, false_implies, implies_true, false_and, and_false, false_or, or_false, i10]
    exact g
  have fnd : ∀ c, (∀ m1 : Mm, m1 201 = m 201 → m1 204 = m 204 → ∀ Q : Rt, Q (-1000010 - c) σ (upM m1 199 3 c) l → WX (tX6_drew K 11) Q (30, [.ref 199, .int (nI r), .int y, .float 0, .float 0, .float 0, .float 0], [], (0, 0), σ, m1, l)) → CT K 11 YX5_found [.ref 0, .int c] σ m l (fun r' σ1 m1 l1 => σ1 = σ ∧ CT K 12 YX6_drew [.ref 199, .int (nI r), .int y] σ m1 l1 (fun r'' σ2 m2 l2 => σ2 = σ ∧ r'' = r' ∧ RR m2)) := by
    intro c hc
    refine t_found H0 ?_
    exact ⟨rfl, pre _ _ (upM_n _ _ _ (by decide)) (hc _ (upM_n _ _ _ (by decide)) (upM_n _ _ _ (by decide)) _ ⟨rfl, rfl, RR_st c h⟩)⟩
  rcases rw_there (h.1 r hr) with ⟨ta, sa⟩ | ⟨ta, sa⟩
  · refine ⟨fun _ => fnd 1 (fun m1 w1 w4 Q g => ?_), fun g => absurd ta g⟩
    simp only [xX6_drew_0, xX6_drew_1, xX6_drew_4, xX6_drew_7, xX6_drew_9, xX6_drew_10, xX6_drew_11, xX6_drew_14, xX6_drew_17, xX6_drew_18, xX6_drew_19, xX6_drew_20, xX6_drew_21, xX6_drew_24, xX6_drew_27, xX6_drew_29, xX6_drew_30, xX6_drew_31, xX6_drew_34, xX6_drew_35, xX6_drew_36, xX6_drew_39, xX6_drew_40, xX6_drew_41, xX6_drew_44, xX6_drew_45, xX6_drew_46, xX6_drew_49, xX6_drew_50, xX6_drew_51, xX6_drew_52, xX6_drew_55, xX6_drew_56, xX6_drew_57, xX6_drew_60, xX6_drew_61, xX6_drew_62, xX6_drew_65, Bool.false_eq_true, if_true, if_false, kl_i, kl_a, kl_s, kl_u, kl_l, okS_nil, okS_cons, cat_i, cat_a, cat_s, cat_l, Nat.reduceAdd, Nat.reduceLeDiff, Nat.reduceSub, Nat.sub_zero, Nat.sub_self, Nat.zero_add, Nat.le_refl, Nat.zero_le, List.length_cons, List.length_nil, true_and, and_true, true_or, or_true, eq_self, forall_const, true_implies, not_true_eq_false, not_false_eq_true, false_implies, implies_true, false_and, and_false, false_or, or_false, M0, R1, A201, L201, hcv, hiv, w1, sa]
    refine t_mFound M0 ?_
    exact g
  refine ⟨fun g => absurd g ta, fun _ => ?_⟩
  obtain ⟨ta1, n, n40, a3, a4, a5, a6⟩ := (h.1 r hr).resolve_left (fun g => ta g.1)
  refine t_spans q2 ?_
  rw [a3, h8]
  have cn : (nI n < 0) = False := eq_false (nI_pos (by omega))
  have cnN : (nI n < nI N) = (n < N) := ltN (by omega) (by omega)
  have spN : (spI (nI n) 0 (nI N) = true) = (N ≤ n) := by
    rw [sp2 n40]
    refine propext ⟨fun g => ?_, fun g => ⟨by decide, nI_pos (by omega), ?_⟩⟩
    · have := g.2.2
      rw [Int32.toInt_zero, nI_toInt (by omega)] at this
      omega
    · rw [Int32.toInt_zero, nI_toInt (by omega)]
      omega
  by_cases hs : ¬ N ≤ n
  · rw [if_neg (fun g => hs (spN.mp g))]
    simp only [xX5_drew_0, xX5_drew_1, xX5_drew_4, xX5_drew_7, xX5_drew_10, xX5_drew_12, xX5_drew_13, xX5_drew_14, xX5_drew_17, xX5_drew_20, xX5_drew_21, xX5_drew_24, xX5_drew_25, xX5_drew_26, xX5_drew_29, xX5_drew_31, xX5_drew_32, xX5_drew_33, xX5_drew_36, xX5_drew_37, xX5_drew_38, xX5_drew_41, xX5_drew_44, xX5_drew_45, xX5_drew_46, xX5_drew_49, xX5_drew_50, xX5_drew_51, xX5_drew_54, xX5_drew_55, xX5_drew_56, xX5_drew_57, xX5_drew_58, xX5_drew_61, xX5_drew_64, xX5_drew_67, xX5_drew_70, xX5_drew_71, xX5_drew_72, xX5_drew_75, xX5_drew_76, xX5_drew_77, xX5_drew_78, xX5_drew_81, xX5_drew_82, xX5_drew_85, xX5_drew_86, xX5_drew_87, xX5_drew_90, xX5_drew_91, xX5_drew_92, xX5_drew_95, xX5_drew_98, xX5_drew_99, xX5_drew_100, xX5_drew_103, xX5_drew_104, xX5_drew_105, xX5_drew_108, Bool.false_eq_true, if_true, if_false, kl_i, kl_a, kl_s, kl_u, kl_l, okS_nil, okS_cons, cat_i, cat_a, cat_s, cat_l, Nat.reduceAdd, Nat.reduceLeDiff, Nat.reduceSub, Nat.sub_zero, Nat.sub_self, Nat.zero_add, Nat.le_refl, Nat.zero_le, List.length_cons, List.length_nil, true_and, and_true, true_or, or_true, eq_self, forall_const, true_implies, not_true_eq_false, not_false_eq_true, false_implies, implies_true, false_and, and_false, false_or, or_false, H0, F0, F1, F2, F3, F4, F5, F6, F7, P33.1, P39.1, P45.1]
    refine fnd 2 (fun m1 w1 w4 Q g => ?_)
    have cl : (n < N) = True := eq_true (by omega)
    simp only [xX6_drew_0, xX6_drew_1, xX6_drew_4, xX6_drew_7, xX6_drew_9, xX6_drew_10, xX6_drew_11, xX6_drew_14, xX6_drew_17, xX6_drew_18, xX6_drew_19, xX6_drew_20, xX6_drew_21, xX6_drew_24, xX6_drew_27, xX6_drew_29, xX6_drew_30, xX6_drew_31, xX6_drew_34, xX6_drew_35, xX6_drew_36, xX6_drew_39, xX6_drew_40, xX6_drew_41, xX6_drew_44, xX6_drew_45, xX6_drew_46, xX6_drew_49, xX6_drew_50, xX6_drew_51, xX6_drew_52, xX6_drew_55, xX6_drew_56, xX6_drew_57, xX6_drew_60, xX6_drew_61, xX6_drew_62, xX6_drew_65, Bool.false_eq_true, if_true, if_false, kl_i, kl_a, kl_s, kl_u, kl_l, okS_nil, okS_cons, cat_i, cat_a, cat_s, cat_l, Nat.reduceAdd, Nat.reduceLeDiff, Nat.reduceSub, Nat.sub_zero, Nat.sub_self, Nat.zero_add, Nat.le_refl, Nat.zero_le, List.length_cons, List.length_nil, true_and, and_true, true_or, or_true, eq_self, forall_const, true_implies, not_true_eq_false, not_false_eq_true, false_implies, implies_true, false_and, and_false, false_or, or_false, M0, R1, R8, A201, L201, A204, L204, cl2, vi2, hcv, hiv, w1, w4, a4, h2, cn, cnN, cl]
    refine t_mFound M0 ?_
    exact g
  have hs := Decidable.not_not.mp hs
  have cl : (n < N) = False := eq_false (by omega)
  rw [if_pos (spN.mpr hs)]
  simp only [xX5_drew_0, xX5_drew_1, xX5_drew_4, xX5_drew_7, xX5_drew_10, xX5_drew_12, xX5_drew_13, xX5_drew_14, xX5_drew_17, xX5_drew_20, xX5_drew_21, xX5_drew_24, xX5_drew_25, xX5_drew_26, xX5_drew_29, xX5_drew_31, xX5_drew_32, xX5_drew_33, xX5_drew_36, xX5_drew_37, xX5_drew_38, xX5_drew_41, xX5_drew_44, xX5_drew_45, xX5_drew_46, xX5_drew_49, xX5_drew_50, xX5_drew_51, xX5_drew_54, xX5_drew_55, xX5_drew_56, xX5_drew_57, xX5_drew_58, xX5_drew_61, xX5_drew_64, xX5_drew_67, xX5_drew_70, xX5_drew_71, xX5_drew_72, xX5_drew_75, xX5_drew_76, xX5_drew_77, xX5_drew_78, xX5_drew_81, xX5_drew_82, xX5_drew_85, xX5_drew_86, xX5_drew_87, xX5_drew_90, xX5_drew_91, xX5_drew_92, xX5_drew_95, xX5_drew_98, xX5_drew_99, xX5_drew_100, xX5_drew_103, xX5_drew_104, xX5_drew_105, xX5_drew_108, Bool.false_eq_true, if_true, if_false, kl_i, kl_a, kl_s, kl_u, kl_l, okS_nil, okS_cons, cat_i, cat_a, cat_s, cat_l, Nat.reduceAdd, Nat.reduceLeDiff, Nat.reduceSub, Nat.sub_zero, Nat.sub_self, Nat.zero_add, Nat.le_refl, Nat.zero_le, List.length_cons, List.length_nil, true_and, and_true, true_or, or_true, eq_self, forall_const, true_implies, not_true_eq_false, not_false_eq_true, false_implies, implies_true, false_and, and_false, false_or, or_false, H0, F0, F1, F2, F3, F4, F5, F6, F7, P33.1, P39.1, P45.1, i10, W1, W2, hcv, hiv, q1, q2.1]
  have hn0 : nowH N (upM m 0 9 0) (m 204) := triQ_x h7 (fun j hj => upM_n _ _ _ (by omega)) (fun _ _ => rfl) hn
  have modl : ∀ m1, scr (upM m 0 9 0) m1 → CT K 12 YX6_drew [.ref 199, .int (nI r), .int y] σ m1 l (fun r' σ2 m2 l2 => σ2 = σ ∧ r' = (if y = 0 then dcM (fun s => wlM N (m 204) (upM m 0 9 0 (2 + 2 * r + 1)) (nI s)) (2 ^ N) 0 0 else dgM (fun s => wlM N (m 204) (upM m 0 9 0 (2 + 2 * r + 1)) (nI s)) (2 ^ N) 0 (-1000000)) ∧ RR m2) := by
    intro m1 hs1
    have eo : ∀ o, o ≠ 0 → (o < 39 ∨ 51 ≤ o) → m1 o = m o := fun o o1 o2 => (hs1 o o2).trans (upM_n _ _ _ o1)
    have e201 := eo 201 (by omega) (by omega)
    have e204 := eo 204 (by omega) (by omega)
    have e202 := eo 202 (by omega) (by omega)
    refine pre m1 _ (eo 199 (by omega) (by omega)) ?_
    simp only [xX6_drew_0, xX6_drew_1, xX6_drew_4, xX6_drew_7, xX6_drew_9, xX6_drew_10, xX6_drew_11, xX6_drew_14, xX6_drew_17, xX6_drew_18, xX6_drew_19, xX6_drew_20, xX6_drew_21, xX6_drew_24, xX6_drew_27, xX6_drew_29, xX6_drew_30, xX6_drew_31, xX6_drew_34, xX6_drew_35, xX6_drew_36, xX6_drew_39, xX6_drew_40, xX6_drew_41, xX6_drew_44, xX6_drew_45, xX6_drew_46, xX6_drew_49, xX6_drew_50, xX6_drew_51, xX6_drew_52, xX6_drew_55, xX6_drew_56, xX6_drew_57, xX6_drew_60, xX6_drew_61, xX6_drew_62, xX6_drew_65, Bool.false_eq_true, if_true, if_false, kl_i, kl_a, kl_s, kl_u, kl_l, okS_nil, okS_cons, cat_i, cat_a, cat_s, cat_l, Nat.reduceAdd, Nat.reduceLeDiff, Nat.reduceSub, Nat.sub_zero, Nat.sub_self, Nat.zero_add, Nat.le_refl, Nat.zero_le, List.length_cons, List.length_nil, true_and, and_true, true_or, or_true, eq_self, forall_const, true_implies, not_true_eq_false, not_false_eq_true, false_implies, implies_true, false_and, and_false, false_or, or_false, M0, R1, R8, A201, L201, A204, L204, cl2, vi2, hcv, hiv, e201, e204, a4, h2, cn, cnN, cl]
    simp only [xX6_drew_66, xX6_drew_67, Bool.false_eq_true, if_true, if_false, kl_i, kl_a, kl_s, kl_u, kl_l, okS_nil, okS_cons, cat_i, cat_a, cat_s, cat_l, Nat.reduceAdd, Nat.reduceLeDiff, Nat.reduceSub, Nat.sub_zero, Nat.sub_self, Nat.zero_add, Nat.le_refl, Nat.zero_le, List.length_cons, List.length_nil, true_and, and_true, true_or, or_true, eq_self, forall_const, true_implies, not_true_eq_false, not_false_eq_true, false_implies, implies_true, false_and, and_false, false_or, or_false]
    have e0 : setR m1 211 (ftF (m1 202) (m1 211) r 0) = m1 := by
      have : ftF (m1 202) (m1 211) r 0 = m1 211 := by
        funext k
        simp only [ftF]
        rw [if_neg (by omega)]
      rw [this]
      exact setR_id _ _
    have key := l_mfr (K := K) (d := 11) (m := m1) (l := l) (z := y) (Q := fun r' σ2 m2 l2 => σ2 = σ ∧ r' = (if y = 0 then dcM (fun s => wlM N (m 204) (upM m 0 9 0 (2 + 2 * r + 1)) (nI s)) (2 ^ N) 0 0 else dgM (fun s => wlM N (m 204) (upM m 0 9 0 (2 + 2 * r + 1)) (nI s)) (2 ^ N) 0 (-1000000)) ∧ RR m2) hM h7 hr (by rw [e204]; exact h2) N 0 (by omega) ?_
    · rw [e0] at key
      exact key
    · refine l_mdw (d := 7) (a := m 204) (g := upM m 0 9 0 (2 + 2 * r + 1)) hM h7 ((setR_n _ _ (by decide)).trans e204) h2 (fun w hw => ?_) (2 ^ N) 0 0 (-1000000) _ (.float 0) (by omega) (scM_r _) rfl (fun m3 hs3 => ⟨rfl, rfl, ?_⟩)
      · rw [setR_s]
        unfold ftF
        rw [if_pos hw, e202, upM_n _ _ _ (by omega), show 2 + 2 * r + 1 = 3 + 2 * r by omega]
        exact (a6 w (by omega)).symm
      · refine RR_scr (fun o ho => ?_) (RR_st 0 h)
        have hs4 : scM m1 m3 := fun o ho => (hs3 o ho).trans (setR_n _ _ (by omega))
        by_cases g : o = 199
        · subst g
          rw [upM_s, upM_s, hs4 199 (by omega), hs1 199 (by omega)]
        · rw [upM_n _ _ _ g, upM_n _ _ _ g, hs4 o (by omega), hs1 o (by omega)]
  have hp := p27 N (by omega)
  refine ⟨fun hy => ?_, fun hy => ?_⟩
  · refine t_drawingSets hN h7 hn0 q2 (by omega) (scr_r _) (fun m1 hs1 => ?_)
    have key := modl m1 hs1
    rw [if_pos hy] at key
    simp only [xX5_drew_85, xX5_drew_86, xX5_drew_87, xX5_drew_90, xX5_drew_91, xX5_drew_92, xX5_drew_95, xX5_drew_98, xX5_drew_99, xX5_drew_100, xX5_drew_103, xX5_drew_104, xX5_drew_105, xX5_drew_108, Bool.false_eq_true, if_true, if_false, kl_i, kl_a, kl_s, kl_u, kl_l, okS_nil, okS_cons, cat_i, cat_a, cat_s, cat_l, Nat.reduceAdd, Nat.reduceLeDiff, Nat.reduceSub, Nat.sub_zero, Nat.sub_self, Nat.zero_add, Nat.le_refl, Nat.zero_le, List.length_cons, List.length_nil, true_and, and_true, true_or, or_true, eq_self, forall_const, true_implies, not_true_eq_false, not_false_eq_true, false_implies, implies_true, false_and, and_false, false_or, or_false]
    exact key
  · refine t_leastDrawingSet hN h7 hn0 q2 (by omega) (scr_r _) (fun m1 hs1 => ?_)
    have key := modl m1 hs1
    rw [if_neg hy, dg_f _ _ (by omega)] at key
    simp only [xX5_drew_85, xX5_drew_86, xX5_drew_87, xX5_drew_90, xX5_drew_91, xX5_drew_92, xX5_drew_95, xX5_drew_98, xX5_drew_99, xX5_drew_100, xX5_drew_103, xX5_drew_104, xX5_drew_105, xX5_drew_108, Bool.false_eq_true, if_true, if_false, kl_i, kl_a, kl_s, kl_u, kl_l, okS_nil, okS_cons, cat_i, cat_a, cat_s, cat_l, Nat.reduceAdd, Nat.reduceLeDiff, Nat.reduceSub, Nat.sub_zero, Nat.sub_self, Nat.zero_add, Nat.le_refl, Nat.zero_le, List.length_cons, List.length_nil, true_and, and_true, true_or, or_true, eq_self, forall_const, true_implies, not_true_eq_false, not_false_eq_true, false_implies, implies_true, false_and, and_false, false_or, or_false]
    exact key
