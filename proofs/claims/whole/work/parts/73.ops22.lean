/-! calls on rows: copy -/
theorem nn0 {x : Int32} (h : ¬ x < 0) : ∃ v : Nat, v < 2147483648 ∧ x = nI v := by
  rw [Int32.lt_iff_toInt_lt, Int32.toInt_zero] at h
  have := Int32.toInt_lt x
  refine ⟨x.toInt.toNat, by omega, Int32.toInt_inj.mp ?_⟩
  rw [nI_toInt (by omega)]
  omega
theorem p_copy {K : Cx} {σ : Sg} (hw : WF σ) (x i y j n : Int32) : PAIR K σ YX5_copy YX6_copy [.int x, .int i, .int y, .int j, .int n] := by
  intro m l h
  obtain ⟨wN, wR, wT, wA, wL, wM, wI⟩ := hw
  have hM := wM
  obtain ⟨H0, F0, F1, F2, F3, F4, F5, F6, F7, P33, P39, P45⟩ := wN
  obtain ⟨M0, R0, R1, R2, R4, R8, R10, R11, R12, R14, R20, R21, R22, A200, L200, A201, L201, A202, L202, A203, L203, A204, L204, A205, L205, A206, L206, A207, L207, A208, L208, A209, L209, A210, L210, A211, L211⟩ := wM
  obtain ⟨W1, W2, W3⟩ := wR
  have modr : (¬ (¬ x < 0 ∧ x < 8) ∨ ¬ (¬ y < 0 ∧ y < 8)) → CT K 12 YX6_copy [.ref 199, .int x, .int i, .int y, .int j, .int n] σ m l (fun r' σ2 m2 l2 => σ2 = σ ∧ r' = -1000001 ∧ RR m2) := by
    intro hb
    refine kX6_copy ?_
    simp only [xX6_copy_0, xX6_copy_1, xX6_copy_4, xX6_copy_7, xX6_copy_8, xX6_copy_11, xX6_copy_14, xX6_copy_16, xX6_copy_17, Bool.false_eq_true, if_true, if_false, kl_i, kl_a, kl_s, kl_u, kl_l, okS_nil, okS_cons, cat_i, cat_a, cat_s, cat_l, Nat.reduceAdd, Nat.reduceLeDiff, Nat.reduceSub, Nat.sub_zero, Nat.sub_self, Nat.zero_add, Nat.le_refl, Nat.zero_le, List.length_cons, List.length_nil, true_and, and_true, true_or, or_true, eq_self, forall_const, true_implies, not_true_eq_false, not_false_eq_true, false_implies, implies_true, false_and, and_false, false_or, or_false]
    refine t_mIsRow ?_
    by_cases hx : ¬ x < 0 ∧ x < 8
    · rw [if_pos hx]
      simp only [xX6_copy_0, xX6_copy_1, xX6_copy_4, xX6_copy_7, xX6_copy_8, xX6_copy_11, xX6_copy_14, xX6_copy_16, xX6_copy_17, Bool.false_eq_true, if_true, if_false, kl_i, kl_a, kl_s, kl_u, kl_l, okS_nil, okS_cons, cat_i, cat_a, cat_s, cat_l, Nat.reduceAdd, Nat.reduceLeDiff, Nat.reduceSub, Nat.sub_zero, Nat.sub_self, Nat.zero_add, Nat.le_refl, Nat.zero_le, List.length_cons, List.length_nil, true_and, and_true, true_or, or_true, eq_self, forall_const, true_implies, not_true_eq_false, not_false_eq_true, false_implies, implies_true, false_and, and_false, false_or, or_false, i10]
      refine t_mIsRow ?_
      rw [if_neg (hb.resolve_left (fun g => g hx))]
      simp only [xX6_copy_0, xX6_copy_1, xX6_copy_4, xX6_copy_7, xX6_copy_8, xX6_copy_11, xX6_copy_14, xX6_copy_16, xX6_copy_17, Bool.false_eq_true, if_true, if_false, kl_i, kl_a, kl_s, kl_u, kl_l, okS_nil, okS_cons, cat_i, cat_a, cat_s, cat_l, Nat.reduceAdd, Nat.reduceLeDiff, Nat.reduceSub, Nat.sub_zero, Nat.sub_self, Nat.zero_add, Nat.le_refl, Nat.zero_le, List.length_cons, List.length_nil, true_and, and_true, true_or, or_true, eq_self, forall_const, true_implies, not_true_eq_false, not_false_eq_true, false_implies, implies_true, false_and, and_false, false_or, or_false]
      exact h
    · rw [if_neg hx]
      simp only [xX6_copy_0, xX6_copy_1, xX6_copy_4, xX6_copy_7, xX6_copy_8, xX6_copy_11, xX6_copy_14, xX6_copy_16, xX6_copy_17, Bool.false_eq_true, if_true, if_false, kl_i, kl_a, kl_s, kl_u, kl_l, okS_nil, okS_cons, cat_i, cat_a, cat_s, cat_l, Nat.reduceAdd, Nat.reduceLeDiff, Nat.reduceSub, Nat.sub_zero, Nat.sub_self, Nat.zero_add, Nat.le_refl, Nat.zero_le, List.length_cons, List.length_nil, true_and, and_true, true_or, or_true, eq_self, forall_const, true_implies, not_true_eq_false, not_false_eq_true, false_implies, implies_true, false_and, and_false, false_or, or_false]
      exact h
  refine kX5_copy ?_
  simp only [xX5_copy_0, xX5_copy_1, xX5_copy_4, xX5_copy_7, xX5_copy_8, xX5_copy_11, xX5_copy_14, xX5_copy_16, xX5_copy_17, xX5_copy_18, xX5_copy_21, xX5_copy_22, xX5_copy_23, xX5_copy_25, xX5_copy_26, xX5_copy_29, xX5_copy_30, xX5_copy_31, xX5_copy_33, xX5_copy_35, xX5_copy_38, xX5_copy_41, xX5_copy_43, xX5_copy_46, xX5_copy_49, xX5_copy_50, xX5_copy_51, xX5_copy_54, xX5_copy_55, xX5_copy_57, xX5_copy_60, xX5_copy_62, xX5_copy_65, xX5_copy_68, xX5_copy_69, xX5_copy_70, xX5_copy_73, xX5_copy_74, xX5_copy_76, xX5_copy_77, xX5_copy_79, xX5_copy_82, xX5_copy_85, xX5_copy_87, xX5_copy_89, xX5_copy_91, xX5_copy_94, xX5_copy_97, xX5_copy_98, xX5_copy_99, xX5_copy_102, xX5_copy_103, xX5_copy_104, xX5_copy_105, xX5_copy_108, xX5_copy_110, xX5_copy_113, xX5_copy_114, xX5_copy_116, xX5_copy_119, xX5_copy_121, xX5_copy_123, xX5_copy_126, xX5_copy_128, Bool.false_eq_true, if_true, if_false, kl_i, kl_a, kl_s, kl_u, kl_l, okS_nil, okS_cons, cat_i, cat_a, cat_s, cat_l, Nat.reduceAdd, Nat.reduceLeDiff, Nat.reduceSub, Nat.sub_zero, Nat.sub_self, Nat.zero_add, Nat.le_refl, Nat.zero_le, List.length_cons, List.length_nil, true_and, and_true, true_or, or_true, eq_self, forall_const, true_implies, not_true_eq_false, not_false_eq_true, false_implies, implies_true, false_and, and_false, false_or, or_false, H0, F0, F1, F2, F3, F4, F5, F6, F7, P33.1, P39.1, P45.1]
  refine t_isRow ?_
  by_cases hx : ¬ (¬ x < 0 ∧ x < 8)
  · rw [if_neg hx]
    simp only [xX5_copy_0, xX5_copy_1, xX5_copy_4, xX5_copy_7, xX5_copy_8, xX5_copy_11, xX5_copy_14, xX5_copy_16, xX5_copy_17, xX5_copy_18, xX5_copy_21, xX5_copy_22, xX5_copy_23, xX5_copy_25, xX5_copy_26, xX5_copy_29, xX5_copy_30, xX5_copy_31, xX5_copy_33, xX5_copy_35, xX5_copy_38, xX5_copy_41, xX5_copy_43, xX5_copy_46, xX5_copy_49, xX5_copy_50, xX5_copy_51, xX5_copy_54, xX5_copy_55, xX5_copy_57, xX5_copy_60, xX5_copy_62, xX5_copy_65, xX5_copy_68, xX5_copy_69, xX5_copy_70, xX5_copy_73, xX5_copy_74, xX5_copy_76, xX5_copy_77, xX5_copy_79, xX5_copy_82, xX5_copy_85, xX5_copy_87, xX5_copy_89, xX5_copy_91, xX5_copy_94, xX5_copy_97, xX5_copy_98, xX5_copy_99, xX5_copy_102, xX5_copy_103, xX5_copy_104, xX5_copy_105, xX5_copy_108, xX5_copy_110, xX5_copy_113, xX5_copy_114, xX5_copy_116, xX5_copy_119, xX5_copy_121, xX5_copy_123, xX5_copy_126, xX5_copy_128, Bool.false_eq_true, if_true, if_false, kl_i, kl_a, kl_s, kl_u, kl_l, okS_nil, okS_cons, cat_i, cat_a, cat_s, cat_l, Nat.reduceAdd, Nat.reduceLeDiff, Nat.reduceSub, Nat.sub_zero, Nat.sub_self, Nat.zero_add, Nat.le_refl, Nat.zero_le, List.length_cons, List.length_nil, true_and, and_true, true_or, or_true, eq_self, forall_const, true_implies, not_true_eq_false, not_false_eq_true, false_implies, implies_true, false_and, and_false, false_or, or_false, H0, F0, F1, F2, F3, F4, F5, F6, F7, P33.1, P39.1, P45.1]
    exact modr (Or.inl hx)
  have hx := Decidable.not_not.mp hx
  rw [if_pos hx]
  simp only [xX5_copy_0, xX5_copy_1, xX5_copy_4, xX5_copy_7, xX5_copy_8, xX5_copy_11, xX5_copy_14, xX5_copy_16, xX5_copy_17, xX5_copy_18, xX5_copy_21, xX5_copy_22, xX5_copy_23, xX5_copy_25, xX5_copy_26, xX5_copy_29, xX5_copy_30, xX5_copy_31, xX5_copy_33, xX5_copy_35, xX5_copy_38, xX5_copy_41, xX5_copy_43, xX5_copy_46, xX5_copy_49, xX5_copy_50, xX5_copy_51, xX5_copy_54, xX5_copy_55, xX5_copy_57, xX5_copy_60, xX5_copy_62, xX5_copy_65, xX5_copy_68, xX5_copy_69, xX5_copy_70, xX5_copy_73, xX5_copy_74, xX5_copy_76, xX5_copy_77, xX5_copy_79, xX5_copy_82, xX5_copy_85, xX5_copy_87, xX5_copy_89, xX5_copy_91, xX5_copy_94, xX5_copy_97, xX5_copy_98, xX5_copy_99, xX5_copy_102, xX5_copy_103, xX5_copy_104, xX5_copy_105, xX5_copy_108, xX5_copy_110, xX5_copy_113, xX5_copy_114, xX5_copy_116, xX5_copy_119, xX5_copy_121, xX5_copy_123, xX5_copy_126, xX5_copy_128, Bool.false_eq_true, if_true, if_false, kl_i, kl_a, kl_s, kl_u, kl_l, okS_nil, okS_cons, cat_i, cat_a, cat_s, cat_l, Nat.reduceAdd, Nat.reduceLeDiff, Nat.reduceSub, Nat.sub_zero, Nat.sub_self, Nat.zero_add, Nat.le_refl, Nat.zero_le, List.length_cons, List.length_nil, true_and, and_true, true_or, or_true, eq_self, forall_const, true_implies, not_true_eq_false, not_false_eq_true, false_implies, implies_true, false_and, and_false, false_or, or_false, H0, F0, F1, F2, F3, F4, F5, F6, F7, P33.1, P39.1, P45.1, i10]
  refine t_isRow ?_
  by_cases hy : ¬ (¬ y < 0 ∧ y < 8)
  · rw [if_neg hy]
    simp only [xX5_copy_0, xX5_copy_1, xX5_copy_4, xX5_copy_7, xX5_copy_8, xX5_copy_11, xX5_copy_14, xX5_copy_16, xX5_copy_17, xX5_copy_18, xX5_copy_21, xX5_copy_22, xX5_copy_23, xX5_copy_25, xX5_copy_26, xX5_copy_29, xX5_copy_30, xX5_copy_31, xX5_copy_33, xX5_copy_35, xX5_copy_38, xX5_copy_41, xX5_copy_43, xX5_copy_46, xX5_copy_49, xX5_copy_50, xX5_copy_51, xX5_copy_54, xX5_copy_55, xX5_copy_57, xX5_copy_60, xX5_copy_62, xX5_copy_65, xX5_copy_68, xX5_copy_69, xX5_copy_70, xX5_copy_73, xX5_copy_74, xX5_copy_76, xX5_copy_77, xX5_copy_79, xX5_copy_82, xX5_copy_85, xX5_copy_87, xX5_copy_89, xX5_copy_91, xX5_copy_94, xX5_copy_97, xX5_copy_98, xX5_copy_99, xX5_copy_102, xX5_copy_103, xX5_copy_104, xX5_copy_105, xX5_copy_108, xX5_copy_110, xX5_copy_113, xX5_copy_114, xX5_copy_116, xX5_copy_119, xX5_copy_121, xX5_copy_123, xX5_copy_126, xX5_copy_128, Bool.false_eq_true, if_true, if_false, kl_i, kl_a, kl_s, kl_u, kl_l, okS_nil, okS_cons, cat_i, cat_a, cat_s, cat_l, Nat.reduceAdd, Nat.reduceLeDiff, Nat.reduceSub, Nat.sub_zero, Nat.sub_self, Nat.zero_add, Nat.le_refl, Nat.zero_le, List.length_cons, List.length_nil, true_and, and_true, true_or, or_true, eq_self, forall_const, true_implies, not_true_eq_false, not_false_eq_true, false_implies, implies_true, false_and, and_false, false_or, or_false, H0, F0, F1, F2, F3, F4, F5, F6, F7, P33.1, P39.1, P45.1]
    exact modr (Or.inr hy)
  have hy := Decidable.not_not.mp hy
  rw [if_pos hy]
  obtain ⟨a, ha, e⟩ := row_of hx
  subst e
  obtain ⟨b, hb, e⟩ := row_of hy
  subst e
  obtain ⟨p1, p2⟩ := W3 a ha
  obtain ⟨q1, q2⟩ := W3 b hb
  have hca := clN (v := a) (by omega)
  have hia := inN (v := a) (n := 8) ha (by omega)
  have hcb := clN (v := b) (by omega)
  have hib := inN (v := b) (n := 8) hb (by omega)
  have ua : ∀ k y, upM m 0 k y (2 + 2 * a) = m (2 + 2 * a) := fun _ _ => upM_n _ _ _ (by omega)
  simp only [xX5_copy_0, xX5_copy_1, xX5_copy_4, xX5_copy_7, xX5_copy_8, xX5_copy_11, xX5_copy_14, xX5_copy_16, xX5_copy_17, xX5_copy_18, xX5_copy_21, xX5_copy_22, xX5_copy_23, xX5_copy_25, xX5_copy_26, xX5_copy_29, xX5_copy_30, xX5_copy_31, xX5_copy_33, xX5_copy_35, xX5_copy_38, xX5_copy_41, xX5_copy_43, xX5_copy_46, xX5_copy_49, xX5_copy_50, xX5_copy_51, xX5_copy_54, xX5_copy_55, xX5_copy_57, xX5_copy_60, xX5_copy_62, xX5_copy_65, xX5_copy_68, xX5_copy_69, xX5_copy_70, xX5_copy_73, xX5_copy_74, xX5_copy_76, xX5_copy_77, xX5_copy_79, xX5_copy_82, xX5_copy_85, xX5_copy_87, xX5_copy_89, xX5_copy_91, xX5_copy_94, xX5_copy_97, xX5_copy_98, xX5_copy_99, xX5_copy_102, xX5_copy_103, xX5_copy_104, xX5_copy_105, xX5_copy_108, xX5_copy_110, xX5_copy_113, xX5_copy_114, xX5_copy_116, xX5_copy_119, xX5_copy_121, xX5_copy_123, xX5_copy_126, xX5_copy_128, Bool.false_eq_true, if_true, if_false, kl_i, kl_a, kl_s, kl_u, kl_l, okS_nil, okS_cons, cat_i, cat_a, cat_s, cat_l, Nat.reduceAdd, Nat.reduceLeDiff, Nat.reduceSub, Nat.sub_zero, Nat.sub_self, Nat.zero_add, Nat.le_refl, Nat.zero_le, List.length_cons, List.length_nil, true_and, and_true, true_or, or_true, eq_self, forall_const, true_implies, not_true_eq_false, not_false_eq_true, false_implies, implies_true, false_and, and_false, false_or, or_false, H0, F0, F1, F2, F3, F4, F5, F6, F7, P33.1, P39.1, P45.1, i10, W1, W2, hca, hia, hcb, hib, p1, p2.1, q1, q2.1]
  have pre : ∀ (m1 : Mm) (Q : Rt), m1 201 = m 201 → m1 200 = m 200 → WX (tX6_copy K 11) Q (17, [.ref 199, .int (nI a), .int i, .int (nI b), .int j, .int n, .float 0, .float 0], [], (0, 0), σ, m1, l) → CT K 12 YX6_copy [.ref 199, .int (nI a), .int i, .int (nI b), .int j, .int n] σ m1 l Q := by
    intro m1 Q _ _ g
    refine kX6_copy ?_
    simp only [xX6_copy_0, xX6_copy_1, xX6_copy_4, xX6_copy_7, xX6_copy_8, xX6_copy_11, xX6_copy_14, xX6_copy_16, Bool.false_eq_true, if_true, if_false, kl_i, kl_a, kl_s, kl_u, kl_l, okS_nil, okS_cons, cat_i, cat_a, cat_s, cat_l, Nat.reduceAdd, Nat.reduceLeDiff, Nat.reduceSub, Nat.sub_zero, Nat.sub_self, Nat.zero_add, Nat.le_refl, Nat.zero_le, List.length_cons, List.length_nil, true_and, and_true, true_or, or_true, eq_self, forall_const, true_implies, not_true_eq_false, not_false_eq_true, false_implies, implies_true, false_and, and_false, false_or, or_false]
    refine t_mIsRow ?_
    rw [if_pos hx]
    simp only [xX6_copy_0, xX6_copy_1, xX6_copy_4, xX6_copy_7, xX6_copy_8, xX6_copy_11, xX6_copy_14, xX6_copy_16, Bool.false_eq_true, if_true, if_false, kl_i, kl_a, kl_s, kl_u, kl_l, okS_nil, okS_cons, cat_i, cat_a, cat_s, cat_l, Nat.reduceAdd, Nat.reduceLeDiff, Nat.reduceSub, Nat.sub_zero, Nat.sub_self, Nat.zero_add, Nat.le_refl, Nat.zero_le, List.length_cons, List.length_nil, true_and, and_true, true_or, or_true, eq_self, forall_const, true_implies, not_true_eq_false, not_false_eq_true, false_implies, implies_true, false_and, and_false, false_or, or_false, i10]
    refine t_mIsRow ?_
    rw [if_pos hy]
    simp only [xX6_copy_0, xX6_copy_1, xX6_copy_4, xX6_copy_7, xX6_copy_8, xX6_copy_11, xX6_copy_14, xX6_copy_16, Bool.false_eq_true, if_true, if_false, kl_i, kl_a, kl_s, kl_u, kl_l, okS_nil, okS_cons, cat_i, cat_a, cat_s, cat_l, Nat.reduceAdd, Nat.reduceLeDiff, Nat.reduceSub, Nat.sub_zero, Nat.sub_self, Nat.zero_add, Nat.le_refl, Nat.zero_le, List.length_cons, List.length_nil, true_and, and_true, true_or, or_true, eq_self, forall_const, true_implies, not_true_eq_false, not_false_eq_true, false_implies, implies_true, false_and, and_false, false_or, or_false, i10]
    exact g
  have fnd : ∀ c, (∀ m1 : Mm, m1 201 = m 201 → m1 200 = m 200 → ∀ Q : Rt, Q (-1000010 - c) σ (upM m1 199 3 c) l → WX (tX6_copy K 11) Q (17, [.ref 199, .int (nI a), .int i, .int (nI b), .int j, .int n, .float 0, .float 0], [], (0, 0), σ, m1, l)) → CT K 11 YX5_found [.ref 0, .int c] σ m l (fun r σ1 m1 l1 => σ1 = σ ∧ CT K 12 YX6_copy [.ref 199, .int (nI a), .int i, .int (nI b), .int j, .int n] σ m1 l1 (fun r' σ2 m2 l2 => σ2 = σ ∧ r' = r ∧ RR m2)) := by
    intro c hc
    refine t_found H0 ?_
    have w1 : upM m 0 9 c 201 = m 201 := upM_n _ _ _ (by decide)
    have w0 : upM m 0 9 c 200 = m 200 := upM_n _ _ _ (by decide)
    exact ⟨rfl, pre _ _ w1 w0 (hc _ w1 w0 _ ⟨rfl, rfl, RR_st c h⟩)⟩
  rcases rw_there (h.1 a ha) with ⟨ta, sa⟩ | ⟨ta, sa⟩
  · refine ⟨fun _ => fnd 1 (fun m1 w1 w0 Q g => ?_), fun g => absurd ta g⟩
    simp only [xX6_copy_17, xX6_copy_18, xX6_copy_21, xX6_copy_22, xX6_copy_23, xX6_copy_35, xX6_copy_36, xX6_copy_37, xX6_copy_40, Bool.false_eq_true, if_true, if_false, kl_i, kl_a, kl_s, kl_u, kl_l, okS_nil, okS_cons, cat_i, cat_a, cat_s, cat_l, Nat.reduceAdd, Nat.reduceLeDiff, Nat.reduceSub, Nat.sub_zero, Nat.sub_self, Nat.zero_add, Nat.le_refl, Nat.zero_le, List.length_cons, List.length_nil, true_and, and_true, true_or, or_true, eq_self, forall_const, true_implies, not_true_eq_false, not_false_eq_true, false_implies, implies_true, false_and, and_false, false_or, or_false, M0, R1, A201, L201, hca, hia, w1, sa]
    refine t_mFound M0 ?_
    exact g
  refine ⟨fun g => absurd g ta, fun _ => ?_⟩
  rcases rw_there (h.1 b hb) with ⟨tb, sb⟩ | ⟨tb, sb⟩
  · refine ⟨fun _ => fnd 1 (fun m1 w1 w0 Q g => ?_), fun g => absurd tb g⟩
    simp only [xX6_copy_17, xX6_copy_18, xX6_copy_21, xX6_copy_22, xX6_copy_23, xX6_copy_26, xX6_copy_27, xX6_copy_30, xX6_copy_31, xX6_copy_32, xX6_copy_35, xX6_copy_36, xX6_copy_37, xX6_copy_40, Bool.false_eq_true, if_true, if_false, kl_i, kl_a, kl_s, kl_u, kl_l, okS_nil, okS_cons, cat_i, cat_a, cat_s, cat_l, Nat.reduceAdd, Nat.reduceLeDiff, Nat.reduceSub, Nat.sub_zero, Nat.sub_self, Nat.zero_add, Nat.le_refl, Nat.zero_le, List.length_cons, List.length_nil, true_and, and_true, true_or, or_true, eq_self, forall_const, true_implies, not_true_eq_false, not_false_eq_true, false_implies, implies_true, false_and, and_false, false_or, or_false, M0, R1, A201, L201, hca, hia, hcb, hib, w1, sa, sb]
    refine t_mFound M0 ?_
    exact g
  refine ⟨fun g => absurd g tb, fun _ => ?_⟩
  obtain ⟨ta1, na, na40, a3, a4, a5, a6⟩ := (h.1 a ha).resolve_left (fun g => ta g.1)
  obtain ⟨tb1, nb, nb40, b3, b4, b5, b6⟩ := (h.1 b hb).resolve_left (fun g => tb g.1)
  rw [a5, b5]
  have cna : (nI na < 0) = False := eq_false (nI_pos (by omega))
  have cnb : (nI nb < 0) = False := eq_false (nI_pos (by omega))
  by_cases hl : ¬ m 200 a = m 200 b
  · refine ⟨fun g => absurd g hl, fun _ => fnd 5 (fun m1 w1 w0 Q g => ?_)⟩
    simp only [xX6_copy_0, xX6_copy_1, xX6_copy_4, xX6_copy_7, xX6_copy_8, xX6_copy_11, xX6_copy_14, xX6_copy_16, xX6_copy_17, xX6_copy_18, xX6_copy_21, xX6_copy_22, xX6_copy_23, xX6_copy_26, xX6_copy_27, xX6_copy_30, xX6_copy_31, xX6_copy_32, xX6_copy_35, xX6_copy_36, xX6_copy_37, xX6_copy_40, xX6_copy_41, xX6_copy_42, xX6_copy_45, xX6_copy_46, xX6_copy_47, xX6_copy_48, xX6_copy_51, xX6_copy_52, xX6_copy_53, xX6_copy_56, xX6_copy_57, xX6_copy_58, xX6_copy_61, xX6_copy_62, Bool.false_eq_true, if_true, if_false, kl_i, kl_a, kl_s, kl_u, kl_l, okS_nil, okS_cons, cat_i, cat_a, cat_s, cat_l, Nat.reduceAdd, Nat.reduceLeDiff, Nat.reduceSub, Nat.sub_zero, Nat.sub_self, Nat.zero_add, Nat.le_refl, Nat.zero_le, List.length_cons, List.length_nil, true_and, and_true, true_or, or_true, eq_self, forall_const, true_implies, not_true_eq_false, not_false_eq_true, false_implies, implies_true, false_and, and_false, false_or, or_false, M0, R0, R1, A200, L200, A201, L201, hca, hia, hcb, hib, w1, w0, a4, b4, cna, cnb, hl]
    refine t_mFound M0 ?_
    exact g
  have hl := Decidable.not_not.mp hl
  refine ⟨fun _ => ?_, fun g => absurd hl g⟩
  have mid : ∀ (m1 : Mm) (Q : Rt), m1 201 = m 201 → m1 200 = m 200 → (¬ ((¬ i < 0 ∧ ¬ n < 0 ∧ i.toInt + n.toInt ≤ na) ∧ (¬ j < 0 ∧ ¬ n < 0 ∧ j.toInt + n.toInt ≤ nb)) → Q (-1000010 - 2) σ (upM m1 199 3 2) l) →
      (((¬ i < 0 ∧ ¬ n < 0 ∧ i.toInt + n.toInt ≤ na) ∧ (¬ j < 0 ∧ ¬ n < 0 ∧ j.toInt + n.toInt ≤ nb)) → WX (tX6_copy K 11) Q (117, [.ref 199, .int (nI a), .int i, .int (nI b), .int j, .int n, .float 0, .float 0], [], (0, 0), σ, m1, l)) →
      WX (tX6_copy K 11) Q (17, [.ref 199, .int (nI a), .int i, .int (nI b), .int j, .int n, .float 0, .float 0], [], (0, 0), σ, m1, l) := by
    intro m1 Q w1 w0 gb gg
    have out : ¬ ((¬ i < 0 ∧ ¬ n < 0 ∧ i.toInt + n.toInt ≤ na) ∧ (¬ j < 0 ∧ ¬ n < 0 ∧ j.toInt + n.toInt ≤ nb)) → WX (tX6_copy K 11) Q (111, [.ref 199, .int (nI a), .int i, .int (nI b), .int j, .int n, .float 0, .float 0], [], (0, 0), σ, m1, l) := by
      intro hbad
      simp only [xX6_copy_111, xX6_copy_112, xX6_copy_113, xX6_copy_116, Bool.false_eq_true, if_true, if_false, kl_i, kl_a, kl_s, kl_u, kl_l, okS_nil, okS_cons, cat_i, cat_a, cat_s, cat_l, Nat.reduceAdd, Nat.reduceLeDiff, Nat.reduceSub, Nat.sub_zero, Nat.sub_self, Nat.zero_add, Nat.le_refl, Nat.zero_le, List.length_cons, List.length_nil, true_and, and_true, true_or, or_true, eq_self, forall_const, true_implies, not_true_eq_false, not_false_eq_true, false_implies, implies_true, false_and, and_false, false_or, or_false, M0]
      refine t_mFound M0 ?_
      exact gb hbad
    simp only [xX6_copy_0, xX6_copy_1, xX6_copy_4, xX6_copy_7, xX6_copy_8, xX6_copy_11, xX6_copy_14, xX6_copy_16, xX6_copy_17, xX6_copy_18, xX6_copy_21, xX6_copy_22, xX6_copy_23, xX6_copy_26, xX6_copy_27, xX6_copy_30, xX6_copy_31, xX6_copy_32, xX6_copy_35, xX6_copy_36, xX6_copy_37, xX6_copy_40, xX6_copy_41, xX6_copy_42, xX6_copy_45, xX6_copy_46, xX6_copy_47, xX6_copy_48, xX6_copy_51, xX6_copy_52, xX6_copy_53, xX6_copy_56, xX6_copy_57, xX6_copy_58, xX6_copy_61, xX6_copy_62, xX6_copy_63, xX6_copy_66, xX6_copy_68, xX6_copy_71, xX6_copy_73, xX6_copy_76, xX6_copy_77, xX6_copy_78, xX6_copy_80, xX6_copy_81, xX6_copy_82, xX6_copy_83, xX6_copy_86, xX6_copy_87, xX6_copy_88, xX6_copy_89, xX6_copy_90, xX6_copy_93, xX6_copy_95, xX6_copy_96, xX6_copy_98, xX6_copy_99, xX6_copy_100, xX6_copy_101, xX6_copy_104, xX6_copy_105, xX6_copy_106, xX6_copy_107, xX6_copy_108, Bool.false_eq_true, if_true, if_false, kl_i, kl_a, kl_s, kl_u, kl_l, okS_nil, okS_cons, cat_i, cat_a, cat_s, cat_l, Nat.reduceAdd, Nat.reduceLeDiff, Nat.reduceSub, Nat.sub_zero, Nat.sub_self, Nat.zero_add, Nat.le_refl, Nat.zero_le, List.length_cons, List.length_nil, true_and, and_true, true_or, or_true, eq_self, forall_const, true_implies, not_true_eq_false, not_false_eq_true, false_implies, implies_true, false_and, and_false, false_or, or_false, M0, R0, R1, A200, L200, A201, L201, hca, hia, hcb, hib, w1, w0, a4, b4, cna, cnb, hl, lg_g, lg2 na40, lg2 nb40]
    refine ⟨fun g => out (fun q => q.1.1 g), fun i0 => ⟨fun g => out (fun q => q.2.1 g), fun j0 => ⟨fun g => out (fun q => q.1.2.1 g), fun n0 => ⟨fun g => out (fun q => g q.1.2.2), fun g1 => ⟨fun g => out (fun q => g q.2.2.2), fun g2 => ?_⟩⟩⟩⟩⟩
    exact gg ⟨⟨i0, n0, Decidable.not_not.mp g1⟩, ⟨j0, n0, Decidable.not_not.mp g2⟩⟩
  refine t_spans p2 ?_
  rw [a3]
  by_cases sA : ¬ (¬ i < 0 ∧ ¬ n < 0 ∧ i.toInt + n.toInt ≤ na)
  · rw [if_neg (fun g => sA ((sp2 na40).mp g))]
    simp only [xX5_copy_0, xX5_copy_1, xX5_copy_4, xX5_copy_7, xX5_copy_8, xX5_copy_11, xX5_copy_14, xX5_copy_16, xX5_copy_17, xX5_copy_18, xX5_copy_21, xX5_copy_22, xX5_copy_23, xX5_copy_25, xX5_copy_26, xX5_copy_29, xX5_copy_30, xX5_copy_31, xX5_copy_33, xX5_copy_35, xX5_copy_38, xX5_copy_41, xX5_copy_43, xX5_copy_46, xX5_copy_49, xX5_copy_50, xX5_copy_51, xX5_copy_54, xX5_copy_55, xX5_copy_57, xX5_copy_60, xX5_copy_62, xX5_copy_65, xX5_copy_68, xX5_copy_69, xX5_copy_70, xX5_copy_73, xX5_copy_74, xX5_copy_76, xX5_copy_77, xX5_copy_79, xX5_copy_82, xX5_copy_85, xX5_copy_87, xX5_copy_89, xX5_copy_91, xX5_copy_94, xX5_copy_97, xX5_copy_98, xX5_copy_99, xX5_copy_102, xX5_copy_103, xX5_copy_104, xX5_copy_105, xX5_copy_108, xX5_copy_110, xX5_copy_113, xX5_copy_114, xX5_copy_116, xX5_copy_119, xX5_copy_121, xX5_copy_123, xX5_copy_126, xX5_copy_128, Bool.false_eq_true, if_true, if_false, kl_i, kl_a, kl_s, kl_u, kl_l, okS_nil, okS_cons, cat_i, cat_a, cat_s, cat_l, Nat.reduceAdd, Nat.reduceLeDiff, Nat.reduceSub, Nat.sub_zero, Nat.sub_self, Nat.zero_add, Nat.le_refl, Nat.zero_le, List.length_cons, List.length_nil, true_and, and_true, true_or, or_true, eq_self, forall_const, true_implies, not_true_eq_false, not_false_eq_true, false_implies, implies_true, false_and, and_false, false_or, or_false, H0, F0, F1, F2, F3, F4, F5, F6, F7, P33.1, P39.1, P45.1]
    exact fnd 2 (fun m1 w1 w0 Q g => mid m1 Q w1 w0 (fun _ => g) (fun q => absurd q.1 sA))
  have sA := Decidable.not_not.mp sA
  rw [if_pos ((sp2 na40).mpr sA)]
  simp only [xX5_copy_0, xX5_copy_1, xX5_copy_4, xX5_copy_7, xX5_copy_8, xX5_copy_11, xX5_copy_14, xX5_copy_16, xX5_copy_17, xX5_copy_18, xX5_copy_21, xX5_copy_22, xX5_copy_23, xX5_copy_25, xX5_copy_26, xX5_copy_29, xX5_copy_30, xX5_copy_31, xX5_copy_33, xX5_copy_35, xX5_copy_38, xX5_copy_41, xX5_copy_43, xX5_copy_46, xX5_copy_49, xX5_copy_50, xX5_copy_51, xX5_copy_54, xX5_copy_55, xX5_copy_57, xX5_copy_60, xX5_copy_62, xX5_copy_65, xX5_copy_68, xX5_copy_69, xX5_copy_70, xX5_copy_73, xX5_copy_74, xX5_copy_76, xX5_copy_77, xX5_copy_79, xX5_copy_82, xX5_copy_85, xX5_copy_87, xX5_copy_89, xX5_copy_91, xX5_copy_94, xX5_copy_97, xX5_copy_98, xX5_copy_99, xX5_copy_102, xX5_copy_103, xX5_copy_104, xX5_copy_105, xX5_copy_108, xX5_copy_110, xX5_copy_113, xX5_copy_114, xX5_copy_116, xX5_copy_119, xX5_copy_121, xX5_copy_123, xX5_copy_126, xX5_copy_128, Bool.false_eq_true, if_true, if_false, kl_i, kl_a, kl_s, kl_u, kl_l, okS_nil, okS_cons, cat_i, cat_a, cat_s, cat_l, Nat.reduceAdd, Nat.reduceLeDiff, Nat.reduceSub, Nat.sub_zero, Nat.sub_self, Nat.zero_add, Nat.le_refl, Nat.zero_le, List.length_cons, List.length_nil, true_and, and_true, true_or, or_true, eq_self, forall_const, true_implies, not_true_eq_false, not_false_eq_true, false_implies, implies_true, false_and, and_false, false_or, or_false, H0, F0, F1, F2, F3, F4, F5, F6, F7, P33.1, P39.1, P45.1, i10, q2.1]
  refine t_spans q2 ?_
  rw [b3]
  by_cases sB : ¬ (¬ j < 0 ∧ ¬ n < 0 ∧ j.toInt + n.toInt ≤ nb)
  · rw [if_neg (fun g => sB ((sp2 nb40).mp g))]
    simp only [xX5_copy_0, xX5_copy_1, xX5_copy_4, xX5_copy_7, xX5_copy_8, xX5_copy_11, xX5_copy_14, xX5_copy_16, xX5_copy_17, xX5_copy_18, xX5_copy_21, xX5_copy_22, xX5_copy_23, xX5_copy_25, xX5_copy_26, xX5_copy_29, xX5_copy_30, xX5_copy_31, xX5_copy_33, xX5_copy_35, xX5_copy_38, xX5_copy_41, xX5_copy_43, xX5_copy_46, xX5_copy_49, xX5_copy_50, xX5_copy_51, xX5_copy_54, xX5_copy_55, xX5_copy_57, xX5_copy_60, xX5_copy_62, xX5_copy_65, xX5_copy_68, xX5_copy_69, xX5_copy_70, xX5_copy_73, xX5_copy_74, xX5_copy_76, xX5_copy_77, xX5_copy_79, xX5_copy_82, xX5_copy_85, xX5_copy_87, xX5_copy_89, xX5_copy_91, xX5_copy_94, xX5_copy_97, xX5_copy_98, xX5_copy_99, xX5_copy_102, xX5_copy_103, xX5_copy_104, xX5_copy_105, xX5_copy_108, xX5_copy_110, xX5_copy_113, xX5_copy_114, xX5_copy_116, xX5_copy_119, xX5_copy_121, xX5_copy_123, xX5_copy_126, xX5_copy_128, Bool.false_eq_true, if_true, if_false, kl_i, kl_a, kl_s, kl_u, kl_l, okS_nil, okS_cons, cat_i, cat_a, cat_s, cat_l, Nat.reduceAdd, Nat.reduceLeDiff, Nat.reduceSub, Nat.sub_zero, Nat.sub_self, Nat.zero_add, Nat.le_refl, Nat.zero_le, List.length_cons, List.length_nil, true_and, and_true, true_or, or_true, eq_self, forall_const, true_implies, not_true_eq_false, not_false_eq_true, false_implies, implies_true, false_and, and_false, false_or, or_false, H0, F0, F1, F2, F3, F4, F5, F6, F7, P33.1, P39.1, P45.1]
    exact fnd 2 (fun m1 w1 w0 Q g => mid m1 Q w1 w0 (fun _ => g) (fun q => absurd q.2 sB))
  have sB := Decidable.not_not.mp sB
  rw [if_pos ((sp2 nb40).mpr sB)]
  have sAB := And.intro sA sB
  obtain ⟨ii, hii, e⟩ := nn0 sA.1
  subst e
  obtain ⟨jj, hjj, e⟩ := nn0 sB.1
  subst e
  obtain ⟨nn, hnn, e⟩ := nn0 sA.2.1
  subst e
  have ti : ii + nn ≤ na := by
    have := sA.2.2
    rw [nI_toInt (by omega), nI_toInt (by omega)] at this
    omega
  have tj : jj + nn ≤ nb := by
    have := sB.2.2
    rw [nI_toInt (by omega), nI_toInt (by omega)] at this
    omega
  have hci := clN (v := ii) (by omega)
  have hcj := clN (v := jj) (by omega)
  have hcn := clN (v := nn) (by omega)
  have zi : (nI ii < 0) = False := eq_false sA.1
  have zj : (nI jj < 0) = False := eq_false sB.1
  have zn : (nI nn < 0) = False := eq_false sA.2.1
  have bi : ii + nn ≤ 40 := by omega
  have bj : jj + nn ≤ 40 := by omega
  simp only [xX5_copy_0, xX5_copy_1, xX5_copy_4, xX5_copy_7, xX5_copy_8, xX5_copy_11, xX5_copy_14, xX5_copy_16, xX5_copy_17, xX5_copy_18, xX5_copy_21, xX5_copy_22, xX5_copy_23, xX5_copy_25, xX5_copy_26, xX5_copy_29, xX5_copy_30, xX5_copy_31, xX5_copy_33, xX5_copy_35, xX5_copy_38, xX5_copy_41, xX5_copy_43, xX5_copy_46, xX5_copy_49, xX5_copy_50, xX5_copy_51, xX5_copy_54, xX5_copy_55, xX5_copy_57, xX5_copy_60, xX5_copy_62, xX5_copy_65, xX5_copy_68, xX5_copy_69, xX5_copy_70, xX5_copy_73, xX5_copy_74, xX5_copy_76, xX5_copy_77, xX5_copy_79, xX5_copy_82, xX5_copy_85, xX5_copy_87, xX5_copy_89, xX5_copy_91, xX5_copy_94, xX5_copy_97, xX5_copy_98, xX5_copy_99, xX5_copy_102, xX5_copy_103, xX5_copy_104, xX5_copy_105, xX5_copy_108, xX5_copy_110, xX5_copy_113, xX5_copy_114, xX5_copy_116, xX5_copy_119, xX5_copy_121, xX5_copy_123, xX5_copy_126, xX5_copy_128, Bool.false_eq_true, if_true, if_false, kl_i, kl_a, kl_s, kl_u, kl_l, okS_nil, okS_cons, cat_i, cat_a, cat_s, cat_l, Nat.reduceAdd, Nat.reduceLeDiff, Nat.reduceSub, Nat.sub_zero, Nat.sub_self, Nat.zero_add, Nat.le_refl, Nat.zero_le, List.length_cons, List.length_nil, true_and, and_true, true_or, or_true, eq_self, forall_const, true_implies, not_true_eq_false, not_false_eq_true, false_implies, implies_true, false_and, and_false, false_or, or_false, H0, F0, F1, F2, F3, F4, F5, F6, F7, P33.1, P39.1, P45.1, i10, p2.1, p2.2.1, p2.2.2.1, p2.2.2.2, q2.1, q2.2.1, q2.2.2.1, q2.2.2.2, hci, hcj, hcn, zi, zj, zn, bi, bj]
  have loop : ∀ (M1 : Mm) (Q : Rt), M1 202 = m 202 → Q (nI nn) σ (upM (setR M1 202 (va_cpy (m 202) (m 202) (40 * a + ii) (40 * b + jj) nn)) 199 3 0) l → WX (tX6_copy K 11) Q (117, [.ref 199, .int (nI a), .int (nI ii), .int (nI b), .int (nI jj), .int (nI nn), .float 0, .float 0], [], (0, 0), σ, M1, l) := by
    intro M1 Q e g
    have key := l_cp (K := K) (d := 11) (m := M1) (l := l) (f := M1 202) (Q := Q) hM ha hb bi bj nn 0 (.float 0) (by omega) (fun e6 e7 => by
      simp only [xX6_copy_182, xX6_copy_183, xX6_copy_185, xX6_copy_188, Bool.false_eq_true, if_true, if_false, kl_i, kl_a, kl_s, kl_u, kl_l, okS_nil, okS_cons, cat_i, cat_a, cat_s, cat_l, Nat.reduceAdd, Nat.reduceLeDiff, Nat.reduceSub, Nat.sub_zero, Nat.sub_self, Nat.zero_add, Nat.le_refl, Nat.zero_le, List.length_cons, List.length_nil, true_and, and_true, true_or, or_true, eq_self, forall_const, true_implies, not_true_eq_false, not_false_eq_true, false_implies, implies_true, false_and, and_false, false_or, or_false, M0]
      refine t_mWell M0 ?_
      rw [e]
      exact g)
    rw [cpF_0, setR_id] at key
    simp only [xX6_copy_117, xX6_copy_118, Bool.false_eq_true, if_true, if_false, kl_i, kl_a, kl_s, kl_u, kl_l, okS_nil, okS_cons, cat_i, cat_a, cat_s, cat_l, Nat.reduceAdd, Nat.reduceLeDiff, Nat.reduceSub, Nat.sub_zero, Nat.sub_self, Nat.zero_add, Nat.le_refl, Nat.zero_le, List.length_cons, List.length_nil, true_and, and_true, true_or, or_true, eq_self, forall_const, true_implies, not_true_eq_false, not_false_eq_true, false_implies, implies_true, false_and, and_false, false_or, or_false]
    exact key
  have fin : ∀ m2, m2 = upM (setR (upC (upM m 0 9 0) (2 + 2 * a + 1) (2 + 2 * b + 1) ii jj nn) 202 (va_cpy (m 202) (m 202) (40 * a + ii) (40 * b + jj) nn)) 199 3 0 → RR m2 := by
    intro m2 em
    have eC : upC (upM m 0 9 0) (2 + 2 * a + 1) (2 + 2 * b + 1) ii jj nn = setR (upM m 0 9 0) (2 + 2 * b + 1) (va_cpy (upM m 0 9 0 (2 + 2 * a + 1)) (upM m 0 9 0 (2 + 2 * b + 1)) ii jj nn) := rfl
    rw [eC] at em
    have f0 : ∀ o, o ≠ 199 → o ≠ 202 → o ≠ 2 + 2 * b + 1 → o ≠ 0 → m2 o = m o := fun o o1 o2 o3 o4 => by rw [em, upM_n _ _ _ o1, setR_n _ _ o2, setR_n _ _ o3, upM_n _ _ _ o4]
    have f00 : m2 0 = upd (m 0) 9 0 := by rw [em, upM_n _ _ _ (by decide), setR_n _ _ (by decide), setR_n _ _ (by omega), upM_s]
    have f199 : m2 199 = upd (m 199) 3 0 := by rw [em, upM_s, setR_n _ _ (by decide), setR_n _ _ (by omega), upM_n _ _ _ (by decide)]
    have f202 : m2 202 = va_cpy (m 202) (m 202) (40 * a + ii) (40 * b + jj) nn := by rw [em, upM_n _ _ _ (by decide), setR_s]
    have fb : m2 (3 + 2 * b) = va_cpy (m (3 + 2 * a)) (m (3 + 2 * b)) ii jj nn := by
      rw [show 3 + 2 * b = 2 + 2 * b + 1 by omega, show 3 + 2 * a = 2 + 2 * a + 1 by omega, em, upM_n _ _ _ (by omega), setR_n _ _ (by omega), setR_s, upM_n _ _ _ (by omega), upM_n _ _ _ (by omega)]
    refine RR_row h (fun o o1 o2 o3 o4 => f0 o o2 (by omega) (by omega) o1) ?_ (fun k hk => ?_) ?_ (fun r' hr' => ?_)
    · rw [f00, upd_n _ _ (by decide)]
    · rw [f199, upd_n _ _ hk]
    · rw [f00, f199, upd_s, upd_s]
    · unfold rwR
      rw [f0 200 (by omega) (by omega) (by omega) (by omega), f0 201 (by omega) (by omega) (by omega) (by omega), f0 (2 + 2 * r') (by omega) (by omega) (by omega) (by omega)]
      by_cases hrr : r' = b
      · subst hrr
        refine Or.inr ⟨tb1, nb, nb40, b3, b4, b5, fun k hk => ?_⟩
        rw [fb, f202]
        unfold va_cpy
        by_cases g : jj ≤ k ∧ k < jj + nn
        · rw [if_pos g, if_pos (by omega), a6 _ (by omega)]
          congr 1
          omega
        · rw [if_neg g, if_neg (by omega)]
          exact b6 k hk
      · rw [f0 (3 + 2 * r') (by omega) (by omega) (by omega) (by omega), f202]
        rcases h.1 r' hr' with g' | ⟨s1, n', s2, s3, s4, s5, s6⟩
        · exact Or.inl g'
        · refine Or.inr ⟨s1, n', s2, s3, s4, s5, fun k hk => ?_⟩
          rw [s6 k hk]
          unfold va_cpy
          rw [if_neg (by omega)]
  have k201 : upC (upM m 0 9 0) (2 + 2 * a + 1) (2 + 2 * b + 1) ii jj nn 201 = m 201 := (setR_n _ _ (by omega)).trans (upM_n _ _ _ (by decide))
  have k200 : upC (upM m 0 9 0) (2 + 2 * a + 1) (2 + 2 * b + 1) ii jj nn 200 = m 200 := (setR_n _ _ (by omega)).trans (upM_n _ _ _ (by decide))
  have k202 : upC (upM m 0 9 0) (2 + 2 * a + 1) (2 + 2 * b + 1) ii jj nn 202 = m 202 := (setR_n _ _ (by omega)).trans (upM_n _ _ _ (by decide))
  exact pre _ _ k201 k200 (mid _ _ k201 k200 (fun g => absurd sAB g) (fun _ => loop _ _ k202 ⟨rfl, rfl, fin _ rfl⟩))
