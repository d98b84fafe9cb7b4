/-! calls, one beside the other: as, trace, drop, set -/
theorem in1 {x : Int32} {N : Nat} (hN : N < 100000) : (¬ x < 0 ∧ ¬ (nI N - 1) < x) = (¬ x < 0 ∧ x < nI N) := by
  have e : (¬ (nI N - 1) < x) = (x < nI N) := by
    refine propext ?_
    rw [Int32.lt_iff_toInt_lt, Int32.lt_iff_toInt_lt, nI_toInt (by omega)]
    have h1 : (nI N - 1).toInt = (N : Int) - 1 := by
      cases N with
      | zero => decide
      | succ n => rw [nI_pred, nI_toInt (by omega)]; omega
    rw [h1]
    omega
  rw [e]
theorem io_mo : ∀ k : Nat, k < 6 → 1 ≤ k → ∀ y : Nat, y < 6 → ioI (nI k) (nI y) = moI (nI k) (nI y) := by decide +kernel
theorem nI6 {y : Int32} (h : ¬ y < 0 ∧ ¬ 5 < y) : ∃ v : Nat, v < 6 ∧ y = nI v := by
  rw [i6] at h
  rcases h with g | g | g | g | g | g
  · exact ⟨0, by omega, g⟩
  · exact ⟨1, by omega, g⟩
  · exact ⟨2, by omega, g⟩
  · exact ⟨3, by omega, g⟩
  · exact ⟨4, by omega, g⟩
  · exact ⟨5, by omega, g⟩
theorem p_as {K : Cx} {σ : Sg} (hw : WF σ) (x y : Int32) : PAIR K σ YX5_as YX6_as [.int x, .int y] := by
  intro m l h
  obtain ⟨wN, wR, wT, wA, wL, wM, wI⟩ := hw
  have hM := wM
  obtain ⟨H0, F0, F1, F2, F3, F4, F5, F6, F7, P33, P39, P45⟩ := wN
  obtain ⟨M0, R0, R1, R2, R4, R8, R10, R11, R12, R14, R20, R21, R22, A200, L200, A201, L201, A202, L202, A203, L203, A204, L204, A205, L205, A206, L206, A207, L207, A208, L208, A209, L209, A210, L210, A211, L211⟩ := wM
  obtain ⟨N, X, A, h7, hn, hb, ht, hz, hX, hA, a1, a2, a3, ha⟩ := h.2.2.2.2.1
  have h8 : m 33 8 = nI N := hn.2.1
  have h2 := now_2 hn
  have badm : (¬ (¬ x < 0 ∧ x < nI N) ∨ ¬ (¬ y < 0 ∧ ¬ 5 < y)) → CT K 12 YX6_as [.ref 199, .int x, .int y] σ m l (fun r' σ2 m2 l2 => σ2 = σ ∧ r' = -1000001 ∧ RR m2) := by
    intro hb
    refine kX6_as ?_
    simp only [xX6_as_0, xX6_as_1, xX6_as_2, xX6_as_5, xX6_as_8, xX6_as_9, xX6_as_10, xX6_as_11, xX6_as_14, xX6_as_17, xX6_as_20, xX6_as_22, xX6_as_23, xX6_as_24, xX6_as_27, xX6_as_28, xX6_as_29, xX6_as_30, xX6_as_31, xX6_as_32, xX6_as_35, xX6_as_38, xX6_as_39, xX6_as_40, xX6_as_43, xX6_as_46, xX6_as_47, xX6_as_48, xX6_as_51, Bool.false_eq_true, if_true, if_false, kl_i, kl_a, kl_s, kl_u, kl_l, okS_nil, okS_cons, cat_i, cat_a, cat_s, cat_l, Nat.reduceAdd, Nat.reduceLeDiff, Nat.reduceSub, Nat.sub_zero, Nat.sub_self, Nat.zero_add, Nat.le_refl, Nat.zero_le, List.length_cons, List.length_nil, true_and, and_true, true_or, or_true, eq_self, forall_const, true_implies, not_true_eq_false, not_false_eq_true, false_implies, implies_true, false_and, and_false, false_or, or_false, M0]
    refine t_isVillage hM h2 h7 ?_
    by_cases hv : ¬ x < 0 ∧ x < nI N
    · rw [if_pos hv]
      simp only [xX6_as_0, xX6_as_1, xX6_as_2, xX6_as_5, xX6_as_8, xX6_as_9, xX6_as_10, xX6_as_11, xX6_as_14, xX6_as_17, xX6_as_20, xX6_as_22, xX6_as_23, xX6_as_24, xX6_as_27, xX6_as_28, xX6_as_29, xX6_as_30, xX6_as_31, xX6_as_32, xX6_as_35, xX6_as_38, xX6_as_39, xX6_as_40, xX6_as_43, xX6_as_46, xX6_as_47, xX6_as_48, xX6_as_51, Bool.false_eq_true, if_true, if_false, kl_i, kl_a, kl_s, kl_u, kl_l, okS_nil, okS_cons, cat_i, cat_a, cat_s, cat_l, Nat.reduceAdd, Nat.reduceLeDiff, Nat.reduceSub, Nat.sub_zero, Nat.sub_self, Nat.zero_add, Nat.le_refl, Nat.zero_le, List.length_cons, List.length_nil, true_and, and_true, true_or, or_true, eq_self, forall_const, true_implies, not_true_eq_false, not_false_eq_true, false_implies, implies_true, false_and, and_false, false_or, or_false, M0, i10]
      refine t_inI (a := 0) (b := 5) (by decide) (by decide) ?_
      rw [if_neg (hb.resolve_left (fun g => g hv))]
      simp only [xX6_as_0, xX6_as_1, xX6_as_2, xX6_as_5, xX6_as_8, xX6_as_9, xX6_as_10, xX6_as_11, xX6_as_14, xX6_as_17, xX6_as_20, xX6_as_22, xX6_as_23, xX6_as_24, xX6_as_27, xX6_as_28, xX6_as_29, xX6_as_30, xX6_as_31, xX6_as_32, xX6_as_35, xX6_as_38, xX6_as_39, xX6_as_40, xX6_as_43, xX6_as_46, xX6_as_47, xX6_as_48, xX6_as_51, Bool.false_eq_true, if_true, if_false, kl_i, kl_a, kl_s, kl_u, kl_l, okS_nil, okS_cons, cat_i, cat_a, cat_s, cat_l, Nat.reduceAdd, Nat.reduceLeDiff, Nat.reduceSub, Nat.sub_zero, Nat.sub_self, Nat.zero_add, Nat.le_refl, Nat.zero_le, List.length_cons, List.length_nil, true_and, and_true, true_or, or_true, eq_self, forall_const, true_implies, not_true_eq_false, not_false_eq_true, false_implies, implies_true, false_and, and_false, false_or, or_false, M0]
      exact h
    · rw [if_neg hv]
      simp only [xX6_as_0, xX6_as_1, xX6_as_2, xX6_as_5, xX6_as_8, xX6_as_9, xX6_as_10, xX6_as_11, xX6_as_14, xX6_as_17, xX6_as_20, xX6_as_22, xX6_as_23, xX6_as_24, xX6_as_27, xX6_as_28, xX6_as_29, xX6_as_30, xX6_as_31, xX6_as_32, xX6_as_35, xX6_as_38, xX6_as_39, xX6_as_40, xX6_as_43, xX6_as_46, xX6_as_47, xX6_as_48, xX6_as_51, Bool.false_eq_true, if_true, if_false, kl_i, kl_a, kl_s, kl_u, kl_l, okS_nil, okS_cons, cat_i, cat_a, cat_s, cat_l, Nat.reduceAdd, Nat.reduceLeDiff, Nat.reduceSub, Nat.sub_zero, Nat.sub_self, Nat.zero_add, Nat.le_refl, Nat.zero_le, List.length_cons, List.length_nil, true_and, and_true, true_or, or_true, eq_self, forall_const, true_implies, not_true_eq_false, not_false_eq_true, false_implies, implies_true, false_and, and_false, false_or, or_false, M0]
      exact h
  refine kX5_as ?_
  simp only [xX5_as_0, xX5_as_1, xX5_as_4, xX5_as_5, xX5_as_8, xX5_as_11, xX5_as_12, xX5_as_15, xX5_as_16, xX5_as_17, xX5_as_20, xX5_as_22, xX5_as_23, xX5_as_24, xX5_as_27, xX5_as_30, xX5_as_31, xX5_as_32, xX5_as_33, xX5_as_36, xX5_as_39, xX5_as_40, xX5_as_41, xX5_as_44, xX5_as_45, xX5_as_46, xX5_as_47, xX5_as_50, xX5_as_51, Bool.false_eq_true, if_true, if_false, kl_i, kl_a, kl_s, kl_u, kl_l, okS_nil, okS_cons, cat_i, cat_a, cat_s, cat_l, Nat.reduceAdd, Nat.reduceLeDiff, Nat.reduceSub, Nat.sub_zero, Nat.sub_self, Nat.zero_add, Nat.le_refl, Nat.zero_le, List.length_cons, List.length_nil, true_and, and_true, true_or, or_true, eq_self, forall_const, true_implies, not_true_eq_false, not_false_eq_true, false_implies, implies_true, false_and, and_false, false_or, or_false, H0, F0, F1, F2, F3, F4, F5, F6, F7, P33.1, P39.1, P45.1]
  refine t_has P33.1 ?_
  rw [h8]
  by_cases hv : ¬ x < 0 ∧ x < nI N
  · rw [if_pos hv]
    by_cases hy : ¬ y < 0 ∧ ¬ 5 < y
    · obtain ⟨v, hlt, e⟩ := nat_of (by omega) hv.1 hv.2
      subst e
      obtain ⟨w, hw6, e⟩ := nI6 hy
      subst e
      have hcv := clN (v := v) (by omega)
      have hiv := inN (v := v) (n := 7) (by omega) (by omega)
      have hcv5 := clN (v := 5 + v) (by omega)
      have hiv5 := inN (v := 5 + v) (n := 40) (by omega) (by omega)
      obtain ⟨nt, rm, D, b1, b2, b3, b4, b5, b6, b7⟩ := hb
      obtain ⟨k, kx, ky, kz, d1, d2, d3, _⟩ := b7 v hlt
      have g1 : m (33 + 1) v = nI k := (hn.1.2.2.2.2.2.1 v hlt).1.trans d1
      obtain ⟨hO, r0, r1, r2, r3, r4, o1, o2, o3, o4, o5, l1, l2, l3, l4, l5⟩ := P33
      simp only [xX5_as_0, xX5_as_1, xX5_as_4, xX5_as_5, xX5_as_8, xX5_as_11, xX5_as_12, xX5_as_15, xX5_as_16, xX5_as_17, xX5_as_20, xX5_as_22, xX5_as_23, xX5_as_24, xX5_as_27, xX5_as_30, xX5_as_31, xX5_as_32, xX5_as_33, xX5_as_36, xX5_as_39, xX5_as_40, xX5_as_41, xX5_as_44, xX5_as_45, xX5_as_46, xX5_as_47, xX5_as_50, xX5_as_51, Bool.false_eq_true, if_true, if_false, kl_i, kl_a, kl_s, kl_u, kl_l, okS_nil, okS_cons, cat_i, cat_a, cat_s, cat_l, Nat.reduceAdd, Nat.reduceLeDiff, Nat.reduceSub, Nat.sub_zero, Nat.sub_self, Nat.zero_add, Nat.le_refl, Nat.zero_le, List.length_cons, List.length_nil, true_and, and_true, true_or, or_true, eq_self, forall_const, true_implies, not_true_eq_false, not_false_eq_true, false_implies, implies_true, false_and, and_false, false_or, or_false, H0, F2, hO, r0, r1, r2, r3, r4, o1, o2, o3, o4, o5, l1, l2, l3, l4, l5, i10, hcv, hiv, hy.1, hy.2]
      have g1' : m 34 v = nI k := g1
      rw [g1']
      refine t_isOne ?_
      have em := io_mo k (by omega) d2 w hw6
      have mod : ∀ m1, (∀ o, o ≠ 0 → m1 o = m o) → (Q : Rt) → (moI (nI k) (nI w) = true → Q (nI v) σ (upM m1 199 3 0) l) → (moI (nI k) (nI w) = false → Q (-1000010 - 3) σ (upM m1 199 3 3) l) → CT K 12 YX6_as [.ref 199, .int (nI v), .int (nI w)] σ m1 l Q := by
        intro m1 e1 Q q1 q0
        refine kX6_as ?_
        simp only [xX6_as_0, xX6_as_1, xX6_as_2, xX6_as_5, xX6_as_8, xX6_as_9, xX6_as_10, xX6_as_11, xX6_as_14, xX6_as_17, xX6_as_20, xX6_as_22, xX6_as_23, xX6_as_24, xX6_as_27, xX6_as_28, xX6_as_29, xX6_as_30, xX6_as_31, xX6_as_32, xX6_as_35, xX6_as_38, xX6_as_39, xX6_as_40, xX6_as_43, xX6_as_46, xX6_as_47, xX6_as_48, xX6_as_51, Bool.false_eq_true, if_true, if_false, kl_i, kl_a, kl_s, kl_u, kl_l, okS_nil, okS_cons, cat_i, cat_a, cat_s, cat_l, Nat.reduceAdd, Nat.reduceLeDiff, Nat.reduceSub, Nat.sub_zero, Nat.sub_self, Nat.zero_add, Nat.le_refl, Nat.zero_le, List.length_cons, List.length_nil, true_and, and_true, true_or, or_true, eq_self, forall_const, true_implies, not_true_eq_false, not_false_eq_true, false_implies, implies_true, false_and, and_false, false_or, or_false, M0]
        refine t_isVillage hM (by rw [e1 204 (by decide)]; exact h2) h7 ?_
        rw [if_pos hv]
        simp only [xX6_as_0, xX6_as_1, xX6_as_2, xX6_as_5, xX6_as_8, xX6_as_9, xX6_as_10, xX6_as_11, xX6_as_14, xX6_as_17, xX6_as_20, xX6_as_22, xX6_as_23, xX6_as_24, xX6_as_27, xX6_as_28, xX6_as_29, xX6_as_30, xX6_as_31, xX6_as_32, xX6_as_35, xX6_as_38, xX6_as_39, xX6_as_40, xX6_as_43, xX6_as_46, xX6_as_47, xX6_as_48, xX6_as_51, Bool.false_eq_true, if_true, if_false, kl_i, kl_a, kl_s, kl_u, kl_l, okS_nil, okS_cons, cat_i, cat_a, cat_s, cat_l, Nat.reduceAdd, Nat.reduceLeDiff, Nat.reduceSub, Nat.sub_zero, Nat.sub_self, Nat.zero_add, Nat.le_refl, Nat.zero_le, List.length_cons, List.length_nil, true_and, and_true, true_or, or_true, eq_self, forall_const, true_implies, not_true_eq_false, not_false_eq_true, false_implies, implies_true, false_and, and_false, false_or, or_false, M0, i10]
        refine t_inI (a := 0) (b := 5) (by decide) (by decide) ?_
        rw [if_pos hy]
        simp only [xX6_as_0, xX6_as_1, xX6_as_2, xX6_as_5, xX6_as_8, xX6_as_9, xX6_as_10, xX6_as_11, xX6_as_14, xX6_as_17, xX6_as_20, xX6_as_22, xX6_as_23, xX6_as_24, xX6_as_27, xX6_as_28, xX6_as_29, xX6_as_30, xX6_as_31, xX6_as_32, xX6_as_35, xX6_as_38, xX6_as_39, xX6_as_40, xX6_as_43, xX6_as_46, xX6_as_47, xX6_as_48, xX6_as_51, Bool.false_eq_true, if_true, if_false, kl_i, kl_a, kl_s, kl_u, kl_l, okS_nil, okS_cons, cat_i, cat_a, cat_s, cat_l, Nat.reduceAdd, Nat.reduceLeDiff, Nat.reduceSub, Nat.sub_zero, Nat.sub_self, Nat.zero_add, Nat.le_refl, Nat.zero_le, List.length_cons, List.length_nil, true_and, and_true, true_or, or_true, eq_self, forall_const, true_implies, not_true_eq_false, not_false_eq_true, false_implies, implies_true, false_and, and_false, false_or, or_false, M0, R8, A204, L204, i10, k5, hcv5, hiv5]
        rw [e1 204 (by decide), d1]
        refine t_isOf ?_
        cases hmo : moI (nI k) (nI w)
        · simp only [xX6_as_0, xX6_as_1, xX6_as_2, xX6_as_5, xX6_as_8, xX6_as_9, xX6_as_10, xX6_as_11, xX6_as_14, xX6_as_17, xX6_as_20, xX6_as_22, xX6_as_23, xX6_as_24, xX6_as_27, xX6_as_28, xX6_as_29, xX6_as_30, xX6_as_31, xX6_as_32, xX6_as_35, xX6_as_38, xX6_as_39, xX6_as_40, xX6_as_43, xX6_as_46, xX6_as_47, xX6_as_48, xX6_as_51, Bool.false_eq_true, if_true, if_false, kl_i, kl_a, kl_s, kl_u, kl_l, okS_nil, okS_cons, cat_i, cat_a, cat_s, cat_l, Nat.reduceAdd, Nat.reduceLeDiff, Nat.reduceSub, Nat.sub_zero, Nat.sub_self, Nat.zero_add, Nat.le_refl, Nat.zero_le, List.length_cons, List.length_nil, true_and, and_true, true_or, or_true, eq_self, forall_const, true_implies, not_true_eq_false, not_false_eq_true, false_implies, implies_true, false_and, and_false, false_or, or_false, M0]
          refine t_mFound M0 ?_
          exact q0 hmo
        · simp only [xX6_as_0, xX6_as_1, xX6_as_2, xX6_as_5, xX6_as_8, xX6_as_9, xX6_as_10, xX6_as_11, xX6_as_14, xX6_as_17, xX6_as_20, xX6_as_22, xX6_as_23, xX6_as_24, xX6_as_27, xX6_as_28, xX6_as_29, xX6_as_30, xX6_as_31, xX6_as_32, xX6_as_35, xX6_as_38, xX6_as_39, xX6_as_40, xX6_as_43, xX6_as_46, xX6_as_47, xX6_as_48, xX6_as_51, Bool.false_eq_true, if_true, if_false, kl_i, kl_a, kl_s, kl_u, kl_l, okS_nil, okS_cons, cat_i, cat_a, cat_s, cat_l, Nat.reduceAdd, Nat.reduceLeDiff, Nat.reduceSub, Nat.sub_zero, Nat.sub_self, Nat.zero_add, Nat.le_refl, Nat.zero_le, List.length_cons, List.length_nil, true_and, and_true, true_or, or_true, eq_self, forall_const, true_implies, not_true_eq_false, not_false_eq_true, false_implies, implies_true, false_and, and_false, false_or, or_false, M0, i10]
          refine t_mWell M0 ?_
          exact q1 hmo
      cases hmo : moI (nI k) (nI w)
      · rw [em, hmo]
        simp only [xX5_as_0, xX5_as_1, xX5_as_4, xX5_as_5, xX5_as_8, xX5_as_11, xX5_as_12, xX5_as_15, xX5_as_16, xX5_as_17, xX5_as_20, xX5_as_22, xX5_as_23, xX5_as_24, xX5_as_27, xX5_as_30, xX5_as_31, xX5_as_32, xX5_as_33, xX5_as_36, xX5_as_39, xX5_as_40, xX5_as_41, xX5_as_44, xX5_as_45, xX5_as_46, xX5_as_47, xX5_as_50, xX5_as_51, Bool.false_eq_true, if_true, if_false, kl_i, kl_a, kl_s, kl_u, kl_l, okS_nil, okS_cons, cat_i, cat_a, cat_s, cat_l, Nat.reduceAdd, Nat.reduceLeDiff, Nat.reduceSub, Nat.sub_zero, Nat.sub_self, Nat.zero_add, Nat.le_refl, Nat.zero_le, List.length_cons, List.length_nil, true_and, and_true, true_or, or_true, eq_self, forall_const, true_implies, not_true_eq_false, not_false_eq_true, false_implies, implies_true, false_and, and_false, false_or, or_false, H0]
        refine t_found H0 ?_
        refine ⟨rfl, mod _ (fun o ho => upM_n _ _ _ ho) _ (fun g => ?_) (fun _ => ⟨rfl, rfl, RR_st 3 h⟩)⟩
        rw [hmo] at g; cases g
      · rw [em, hmo]
        simp only [xX5_as_0, xX5_as_1, xX5_as_4, xX5_as_5, xX5_as_8, xX5_as_11, xX5_as_12, xX5_as_15, xX5_as_16, xX5_as_17, xX5_as_20, xX5_as_22, xX5_as_23, xX5_as_24, xX5_as_27, xX5_as_30, xX5_as_31, xX5_as_32, xX5_as_33, xX5_as_36, xX5_as_39, xX5_as_40, xX5_as_41, xX5_as_44, xX5_as_45, xX5_as_46, xX5_as_47, xX5_as_50, xX5_as_51, Bool.false_eq_true, if_true, if_false, kl_i, kl_a, kl_s, kl_u, kl_l, okS_nil, okS_cons, cat_i, cat_a, cat_s, cat_l, Nat.reduceAdd, Nat.reduceLeDiff, Nat.reduceSub, Nat.sub_zero, Nat.sub_self, Nat.zero_add, Nat.le_refl, Nat.zero_le, List.length_cons, List.length_nil, true_and, and_true, true_or, or_true, eq_self, forall_const, true_implies, not_true_eq_false, not_false_eq_true, false_implies, implies_true, false_and, and_false, false_or, or_false, H0, i10]
        refine mod _ (fun o ho => upM_n _ _ _ ho) _ (fun _ => ⟨rfl, rfl, RR_st 0 h⟩) (fun g => ?_)
        rw [hmo] at g; cases g
    · have bm := badm (Or.inr hy)
      simp only [xX5_as_0, xX5_as_1, xX5_as_4, xX5_as_5, xX5_as_8, xX5_as_11, xX5_as_12, xX5_as_15, xX5_as_16, xX5_as_17, xX5_as_20, xX5_as_22, xX5_as_23, xX5_as_24, xX5_as_27, xX5_as_30, xX5_as_31, xX5_as_32, xX5_as_33, xX5_as_36, xX5_as_39, xX5_as_40, xX5_as_41, xX5_as_44, xX5_as_45, xX5_as_46, xX5_as_47, xX5_as_50, xX5_as_51, Bool.false_eq_true, if_true, if_false, kl_i, kl_a, kl_s, kl_u, kl_l, okS_nil, okS_cons, cat_i, cat_a, cat_s, cat_l, Nat.reduceAdd, Nat.reduceLeDiff, Nat.reduceSub, Nat.sub_zero, Nat.sub_self, Nat.zero_add, Nat.le_refl, Nat.zero_le, List.length_cons, List.length_nil, true_and, and_true, true_or, or_true, eq_self, forall_const, true_implies, not_true_eq_false, not_false_eq_true, false_implies, implies_true, false_and, and_false, false_or, or_false, H0, F0, F1, F2, F3, F4, F5, F6, F7, P33.1, P39.1, P45.1, i10]
      by_cases hy0 : y < 0
      · exact ⟨fun _ => bm, fun g => absurd hy0 g⟩
      · have hy5 : 5 < y := by
          by_cases g : 5 < y
          · exact g
          · exact absurd ⟨hy0, g⟩ hy
        exact ⟨fun g => absurd g hy0, fun _ => ⟨fun _ => bm, fun g => absurd hy5 g⟩⟩
  · rw [if_neg hv]
    simp only [xX5_as_0, xX5_as_1, xX5_as_4, xX5_as_5, xX5_as_8, xX5_as_11, xX5_as_12, xX5_as_15, xX5_as_16, xX5_as_17, xX5_as_20, xX5_as_22, xX5_as_23, xX5_as_24, xX5_as_27, xX5_as_30, xX5_as_31, xX5_as_32, xX5_as_33, xX5_as_36, xX5_as_39, xX5_as_40, xX5_as_41, xX5_as_44, xX5_as_45, xX5_as_46, xX5_as_47, xX5_as_50, xX5_as_51, Bool.false_eq_true, if_true, if_false, kl_i, kl_a, kl_s, kl_u, kl_l, okS_nil, okS_cons, cat_i, cat_a, cat_s, cat_l, Nat.reduceAdd, Nat.reduceLeDiff, Nat.reduceSub, Nat.sub_zero, Nat.sub_self, Nat.zero_add, Nat.le_refl, Nat.zero_le, List.length_cons, List.length_nil, true_and, and_true, true_or, or_true, eq_self, forall_const, true_implies, not_true_eq_false, not_false_eq_true, false_implies, implies_true, false_and, and_false, false_or, or_false, H0, F0, F1, F2, F3, F4, F5, F6, F7, P33.1, P39.1, P45.1]
    exact badm (Or.inl hv)
theorem p_trace {K : Cx} {σ : Sg} (hw : WF σ) (x : Int32) : PAIR K σ YX5_trace YX6_trace [.int x] := by
  intro m l h
  obtain ⟨wN, wR, wT, wA, wL, wM, wI⟩ := hw
  obtain ⟨H0, F0, F1, F2, F3, F4, F5, F6, F7, P33, P39, P45⟩ := wN
  obtain ⟨M0, R0, R1, R2, R4, R8, R10, R11, R12, R14, R20, R21, R22, A200, L200, A201, L201, A202, L202, A203, L203, A204, L204, A205, L205, A206, L206, A207, L207, A208, L208, A209, L209, A210, L210, A211, L211⟩ := wM
  obtain ⟨w1, w2, w3, w4⟩ := wL
  obtain ⟨t, t16, t1, t2, t3⟩ := h.2.2.2.2.2.2
  have mod : ∀ r, ((¬ x < 0 ∧ x < nI t) → m 208 x.toNatClampNeg = r) → (¬ (¬ x < 0 ∧ x < nI t) → r = -1000000) → CT K 12 YX6_trace [.ref 199, .int x] σ m l (fun r' σ2 m2 l2 => σ2 = σ ∧ r' = r ∧ RR m2) := by
    intro r q1 q0
    refine kX6_trace ?_
    simp only [xX6_trace_0, xX6_trace_1, xX6_trace_2, xX6_trace_3, xX6_trace_4, xX6_trace_7, xX6_trace_8, xX6_trace_9, xX6_trace_10, xX6_trace_13, xX6_trace_16, xX6_trace_17, xX6_trace_20, xX6_trace_21, xX6_trace_22, xX6_trace_25, xX6_trace_27, Bool.false_eq_true, if_true, if_false, kl_i, kl_a, kl_s, kl_u, kl_l, okS_nil, okS_cons, cat_i, cat_a, cat_s, cat_l, Nat.reduceAdd, Nat.reduceLeDiff, Nat.reduceSub, Nat.sub_zero, Nat.sub_self, Nat.zero_add, Nat.le_refl, Nat.zero_le, List.length_cons, List.length_nil, true_and, and_true, true_or, or_true, eq_self, forall_const, true_implies, not_true_eq_false, not_false_eq_true, false_implies, implies_true, false_and, and_false, false_or, or_false, M0]
    rw [t2]
    refine t_inI (a := 0) (b := nI t - 1) (by decide) rfl ?_
    simp only [in1 (N := t) (x := x) (by omega)]
    by_cases hv : ¬ x < 0 ∧ x < nI t
    · obtain ⟨v, hlt, e⟩ := nat_of (by omega) hv.1 hv.2
      have hiv : vp_in x 16 := by rw [e]; exact inN (by omega) (by omega)
      rw [if_pos hv]
      simp only [xX6_trace_0, xX6_trace_1, xX6_trace_2, xX6_trace_3, xX6_trace_4, xX6_trace_7, xX6_trace_8, xX6_trace_9, xX6_trace_10, xX6_trace_13, xX6_trace_16, xX6_trace_17, xX6_trace_20, xX6_trace_21, xX6_trace_22, xX6_trace_25, xX6_trace_27, Bool.false_eq_true, if_true, if_false, kl_i, kl_a, kl_s, kl_u, kl_l, okS_nil, okS_cons, cat_i, cat_a, cat_s, cat_l, Nat.reduceAdd, Nat.reduceLeDiff, Nat.reduceSub, Nat.sub_zero, Nat.sub_self, Nat.zero_add, Nat.le_refl, Nat.zero_le, List.length_cons, List.length_nil, true_and, and_true, true_or, or_true, eq_self, forall_const, true_implies, not_true_eq_false, not_false_eq_true, false_implies, implies_true, false_and, and_false, false_or, or_false, M0, R14, A208, L208, i10, hiv]
      exact ⟨q1 hv, h⟩
    · rw [if_neg hv]
      simp only [xX6_trace_0, xX6_trace_1, xX6_trace_2, xX6_trace_3, xX6_trace_4, xX6_trace_7, xX6_trace_8, xX6_trace_9, xX6_trace_10, xX6_trace_13, xX6_trace_16, xX6_trace_17, xX6_trace_20, xX6_trace_21, xX6_trace_22, xX6_trace_25, xX6_trace_27, Bool.false_eq_true, if_true, if_false, kl_i, kl_a, kl_s, kl_u, kl_l, okS_nil, okS_cons, cat_i, cat_a, cat_s, cat_l, Nat.reduceAdd, Nat.reduceLeDiff, Nat.reduceSub, Nat.sub_zero, Nat.sub_self, Nat.zero_add, Nat.le_refl, Nat.zero_le, List.length_cons, List.length_nil, true_and, and_true, true_or, or_true, eq_self, forall_const, true_implies, not_true_eq_false, not_false_eq_true, false_implies, implies_true, false_and, and_false, false_or, or_false, M0]
      exact ⟨(q0 hv).symm, h⟩
  refine kX5_trace ?_
  simp only [xX5_trace_0, xX5_trace_1, xX5_trace_4, xX5_trace_5, xX5_trace_6, xX5_trace_9, xX5_trace_12, xX5_trace_15, xX5_trace_16, xX5_trace_19, xX5_trace_22, xX5_trace_23, xX5_trace_24, xX5_trace_27, xX5_trace_29, Bool.false_eq_true, if_true, if_false, kl_i, kl_a, kl_s, kl_u, kl_l, okS_nil, okS_cons, cat_i, cat_a, cat_s, cat_l, Nat.reduceAdd, Nat.reduceLeDiff, Nat.reduceSub, Nat.sub_zero, Nat.sub_self, Nat.zero_add, Nat.le_refl, Nat.zero_le, List.length_cons, List.length_nil, true_and, and_true, true_or, or_true, eq_self, forall_const, true_implies, not_true_eq_false, not_false_eq_true, false_implies, implies_true, false_and, and_false, false_or, or_false, H0, F0, F1, F2, F3, F4, F5, F6, F7, P33.1, P39.1, P45.1, w1, w2, t1]
  by_cases h0 : x < 0
  · exact ⟨fun _ => mod _ (fun g => absurd h0 g.1) (fun _ => rfl), fun g => absurd h0 g⟩
  · refine ⟨fun g => absurd g h0, fun _ => ?_⟩
    by_cases ht2 : x < nI t
    · obtain ⟨v, hlt, e⟩ := nat_of (by omega) h0 ht2
      have hiv : vp_in x 16 := by rw [e]; exact inN (by omega) (by omega)
      have hcv : x.toNatClampNeg = v := by rw [e]; exact clN (by omega)
      refine ⟨fun _ => ?_, fun g => absurd ht2 g⟩
      simp only [xX5_trace_0, xX5_trace_1, xX5_trace_4, xX5_trace_5, xX5_trace_6, xX5_trace_9, xX5_trace_12, xX5_trace_15, xX5_trace_16, xX5_trace_19, xX5_trace_22, xX5_trace_23, xX5_trace_24, xX5_trace_27, xX5_trace_29, Bool.false_eq_true, if_true, if_false, kl_i, kl_a, kl_s, kl_u, kl_l, okS_nil, okS_cons, cat_i, cat_a, cat_s, cat_l, Nat.reduceAdd, Nat.reduceLeDiff, Nat.reduceSub, Nat.sub_zero, Nat.sub_self, Nat.zero_add, Nat.le_refl, Nat.zero_le, List.length_cons, List.length_nil, true_and, and_true, true_or, or_true, eq_self, forall_const, true_implies, not_true_eq_false, not_false_eq_true, false_implies, implies_true, false_and, and_false, false_or, or_false, H0, F0, F1, F2, F3, F4, F5, F6, F7, P33.1, P39.1, P45.1, w1, w2, w3, w4, hiv]
      refine mod _ (fun _ => ?_) (fun g => absurd ⟨h0, ht2⟩ g)
      rw [hcv]; exact (t3 v hlt).symm
    · exact ⟨fun g => absurd g ht2, fun _ => mod _ (fun g => absurd g.2 ht2) (fun _ => rfl)⟩
