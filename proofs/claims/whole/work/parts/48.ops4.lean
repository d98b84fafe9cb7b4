/-! calls on rows: set, row -/
theorem sp1 {n : Nat} {i : Int32} (hn : n ≤ 40) : (spI (nI n) i 1 = true) = (¬ i < 0 ∧ i < nI n) := by
  unfold spI
  by_cases h0 : i < 0
  · rw [decide_eq_true h0]
    exact propext ⟨fun h => by simp at h, fun h => absurd h0 h.1⟩
  · have e : (nI n - i < 1) = ¬ (i < nI n) := by
      refine propext ?_
      rw [Int32.lt_iff_toInt_lt, Int32.toInt_zero] at h0
      rw [Int32.lt_iff_toInt_lt, Int32.lt_iff_toInt_lt, nI_toInt (by omega)]
      have hi := Int32.toInt_lt i
      have h2 : (nI n - i).toInt = (n : Int) - i.toInt := by
        rw [Int32.toInt_sub, nI_toInt (by omega)]
        exact Int.bmod_eq_of_le (by omega) (by omega)
      rw [h2, show (1 : Int32).toInt = 1 by decide]
      omega
    have e1 : decide ((1 : Int32) < 0) = false := by decide
    rw [decide_eq_false h0, e1]
    by_cases h1 : i < nI n
    · have e2 : ¬ (nI n - i < 1) := fun g => (e.mp g) h1
      rw [decide_eq_false e2]
      exact propext ⟨fun _ => ⟨h0, h1⟩, fun _ => rfl⟩
    · have e2 : nI n - i < 1 := e.mpr h1
      rw [decide_eq_true e2]
      exact propext ⟨fun h => absurd h (by decide), fun h => absurd h.2 h1⟩
theorem m40 : ∀ r : Nat, r < 8 → (40 : Int32) * nI r = nI (40 * r) := by decide +kernel
theorem p_set {K : Cx} {σ : Sg} (hw : WF σ) (x i y : Int32) : PAIR K σ YX5_set YX6_set [.int x, .int i, .int y] := by
  intro m l h
  obtain ⟨wN, wR, wT, wA, wL, wM, wI⟩ := hw
  obtain ⟨H0, F0, F1, F2, F3, F4, F5, F6, F7, P33, P39, P45⟩ := wN
  obtain ⟨M0, R0, R1, R2, R4, R8, R10, R11, R12, R14, R20, R21, R22, A200, L200, A201, L201, A202, L202, A203, L203, A204, L204, A205, L205, A206, L206, A207, L207, A208, L208, A209, L209, A210, L210, A211, L211⟩ := wM
  obtain ⟨W1, W2, W3⟩ := wR
  refine kX5_set ?_
  simp only [xX5_set_0, xX5_set_1, xX5_set_4, xX5_set_7, xX5_set_9, xX5_set_10, xX5_set_11, xX5_set_14, xX5_set_15, xX5_set_16, xX5_set_19, xX5_set_22, xX5_set_23, xX5_set_24, xX5_set_27, xX5_set_28, xX5_set_29, xX5_set_32, xX5_set_33, xX5_set_34, xX5_set_35, xX5_set_36, xX5_set_39, xX5_set_42, xX5_set_43, xX5_set_44, xX5_set_47, xX5_set_48, xX5_set_49, xX5_set_50, xX5_set_53, xX5_set_54, xX5_set_57, xX5_set_58, xX5_set_59, xX5_set_60, xX5_set_61, xX5_set_64, Bool.false_eq_true, if_true, if_false, kl_i, kl_a, kl_s, kl_u, kl_l, okS_nil, okS_cons, cat_i, cat_a, cat_s, cat_l, Nat.reduceAdd, Nat.reduceLeDiff, Nat.reduceSub, Nat.sub_zero, Nat.sub_self, Nat.zero_add, Nat.le_refl, Nat.zero_le, List.length_cons, List.length_nil, true_and, and_true, true_or, or_true, eq_self, forall_const, true_implies, not_true_eq_false, not_false_eq_true, false_implies, implies_true, false_and, and_false, false_or, or_false, H0, F0, F1, F2, F3, F4, F5, F6, F7, P33.1, P39.1, P45.1]
  refine t_isRow ?_
  by_cases hx : ¬ x < 0 ∧ x < 8
  · obtain ⟨r, hr, e⟩ := row_of hx
    rw [if_pos hx]
    subst e
    obtain ⟨q1, q2⟩ := W3 r hr
    have hcv := clN (v := r) (by omega)
    have hiv := inN (v := r) (n := 8) hr (by omega)
    have u0 : ∀ k y, upM m 0 k y (2 + 2 * r) = m (2 + 2 * r) := fun _ _ => upM_n _ _ _ (by omega)
    simp only [xX5_set_0, xX5_set_1, xX5_set_4, xX5_set_7, xX5_set_9, xX5_set_10, xX5_set_11, xX5_set_14, xX5_set_15, xX5_set_16, xX5_set_19, xX5_set_22, xX5_set_23, xX5_set_24, xX5_set_27, xX5_set_28, xX5_set_29, xX5_set_32, xX5_set_33, xX5_set_34, xX5_set_35, xX5_set_36, xX5_set_39, xX5_set_42, xX5_set_43, xX5_set_44, xX5_set_47, xX5_set_48, xX5_set_49, xX5_set_50, xX5_set_53, xX5_set_54, xX5_set_57, xX5_set_58, xX5_set_59, xX5_set_60, xX5_set_61, xX5_set_64, Bool.false_eq_true, if_true, if_false, kl_i, kl_a, kl_s, kl_u, kl_l, okS_nil, okS_cons, cat_i, cat_a, cat_s, cat_l, Nat.reduceAdd, Nat.reduceLeDiff, Nat.reduceSub, Nat.sub_zero, Nat.sub_self, Nat.zero_add, Nat.le_refl, Nat.zero_le, List.length_cons, List.length_nil, true_and, and_true, true_or, or_true, eq_self, forall_const, true_implies, not_true_eq_false, not_false_eq_true, false_implies, implies_true, false_and, and_false, false_or, or_false, H0, F0, F1, F2, F3, F4, F5, F6, F7, P33.1, P39.1, P45.1, W1, W2, hcv, hiv, q1, q2.1, i10, u0]
    rcases h.1 r hr with ⟨t1, t2⟩ | ⟨t1, n, hn40, t3, t4, t5, t6⟩
    · rw [t1]
      refine ⟨fun _ => ?_, fun g => absurd rfl g⟩
      refine t_found H0 ?_
      refine ⟨rfl, kX6_set ?_⟩
      simp only [xX6_set_0, xX6_set_1, xX6_set_4, xX6_set_7, xX6_set_9, xX6_set_10, xX6_set_11, xX6_set_14, xX6_set_15, xX6_set_16, xX6_set_19, xX6_set_20, xX6_set_21, xX6_set_24, xX6_set_25, xX6_set_26, xX6_set_27, xX6_set_28, xX6_set_29, xX6_set_32, xX6_set_33, xX6_set_34, xX6_set_35, xX6_set_36, xX6_set_37, xX6_set_40, xX6_set_43, xX6_set_44, xX6_set_45, xX6_set_48, xX6_set_49, xX6_set_50, xX6_set_53, xX6_set_55, xX6_set_56, xX6_set_57, xX6_set_58, xX6_set_59, xX6_set_60, xX6_set_63, xX6_set_64, xX6_set_65, xX6_set_68, xX6_set_69, xX6_set_70, xX6_set_73, xX6_set_74, xX6_set_77, xX6_set_78, xX6_set_79, xX6_set_80, xX6_set_83, xX6_set_84, xX6_set_85, xX6_set_88, xX6_set_89, xX6_set_90, xX6_set_91, xX6_set_92, xX6_set_95, xX6_set_97, xX6_set_98, xX6_set_99, xX6_set_100, xX6_set_101, xX6_set_102, xX6_set_105, Bool.false_eq_true, if_true, if_false, kl_i, kl_a, kl_s, kl_u, kl_l, okS_nil, okS_cons, cat_i, cat_a, cat_s, cat_l, Nat.reduceAdd, Nat.reduceLeDiff, Nat.reduceSub, Nat.sub_zero, Nat.sub_self, Nat.zero_add, Nat.le_refl, Nat.zero_le, List.length_cons, List.length_nil, true_and, and_true, true_or, or_true, eq_self, forall_const, true_implies, not_true_eq_false, not_false_eq_true, false_implies, implies_true, false_and, and_false, false_or, or_false]
      refine t_mIsRow ?_
      rw [if_pos hx]
      have e1 : upM m 0 9 1 201 = m 201 := upM_n _ _ _ (by decide)
      have c : ((-1 : Int32) < 0) = True := eq_true (by decide)
      simp only [xX6_set_0, xX6_set_1, xX6_set_4, xX6_set_7, xX6_set_9, xX6_set_10, xX6_set_11, xX6_set_14, xX6_set_15, xX6_set_16, xX6_set_19, xX6_set_20, xX6_set_21, xX6_set_24, xX6_set_25, xX6_set_26, xX6_set_27, xX6_set_28, xX6_set_29, xX6_set_32, xX6_set_33, xX6_set_34, xX6_set_35, xX6_set_36, xX6_set_37, xX6_set_40, xX6_set_43, xX6_set_44, xX6_set_45, xX6_set_48, xX6_set_49, xX6_set_50, xX6_set_53, xX6_set_55, xX6_set_56, xX6_set_57, xX6_set_58, xX6_set_59, xX6_set_60, xX6_set_63, xX6_set_64, xX6_set_65, xX6_set_68, xX6_set_69, xX6_set_70, xX6_set_73, xX6_set_74, xX6_set_77, xX6_set_78, xX6_set_79, xX6_set_80, xX6_set_83, xX6_set_84, xX6_set_85, xX6_set_88, xX6_set_89, xX6_set_90, xX6_set_91, xX6_set_92, xX6_set_95, xX6_set_97, xX6_set_98, xX6_set_99, xX6_set_100, xX6_set_101, xX6_set_102, xX6_set_105, Bool.false_eq_true, if_true, if_false, kl_i, kl_a, kl_s, kl_u, kl_l, okS_nil, okS_cons, cat_i, cat_a, cat_s, cat_l, Nat.reduceAdd, Nat.reduceLeDiff, Nat.reduceSub, Nat.sub_zero, Nat.sub_self, Nat.zero_add, Nat.le_refl, Nat.zero_le, List.length_cons, List.length_nil, true_and, and_true, true_or, or_true, eq_self, forall_const, true_implies, not_true_eq_false, not_false_eq_true, false_implies, implies_true, false_and, and_false, false_or, or_false, i10, M0, R1, A201, L201, hcv, hiv, e1, t2, c]
      refine t_mFound M0 ?_
      exact ⟨rfl, rfl, RR_st 1 h⟩
    · rw [t1]
      refine ⟨fun g => absurd g (by decide), fun _ => ?_⟩
      refine t_spans q2 ?_
      rw [t3]
      have cn : (nI n < 0) = False := eq_false (nI_pos (by omega))
      by_cases hi : ¬ i < 0 ∧ i < nI n
      · have hs := sp1 hn40 (i := i)
        rw [if_pos (hs.mpr hi)]
        obtain ⟨j, hj, e⟩ := nat_of (by omega) hi.1 hi.2
        subst e
        have hcj := clN (v := j) (by omega)
        have hij := inN (v := j) (n := 40) (by omega) (by omega)
        simp only [xX5_set_0, xX5_set_1, xX5_set_4, xX5_set_7, xX5_set_9, xX5_set_10, xX5_set_11, xX5_set_14, xX5_set_15, xX5_set_16, xX5_set_19, xX5_set_22, xX5_set_23, xX5_set_24, xX5_set_27, xX5_set_28, xX5_set_29, xX5_set_32, xX5_set_33, xX5_set_34, xX5_set_35, xX5_set_36, xX5_set_39, xX5_set_42, xX5_set_43, xX5_set_44, xX5_set_47, xX5_set_48, xX5_set_49, xX5_set_50, xX5_set_53, xX5_set_54, xX5_set_57, xX5_set_58, xX5_set_59, xX5_set_60, xX5_set_61, xX5_set_64, Bool.false_eq_true, if_true, if_false, kl_i, kl_a, kl_s, kl_u, kl_l, okS_nil, okS_cons, cat_i, cat_a, cat_s, cat_l, Nat.reduceAdd, Nat.reduceLeDiff, Nat.reduceSub, Nat.sub_zero, Nat.sub_self, Nat.zero_add, Nat.le_refl, Nat.zero_le, List.length_cons, List.length_nil, true_and, and_true, true_or, or_true, eq_self, forall_const, true_implies, not_true_eq_false, not_false_eq_true, false_implies, implies_true, false_and, and_false, false_or, or_false, H0, F0, F1, F2, F3, F4, F5, F6, F7, P33.1, P39.1, P45.1, W1, W2, hcv, hiv, q1, q2.1, i10]
        have u3 : upM m 0 9 0 (2 + 2 * r) = m (2 + 2 * r) := u0 _ _
        refine t_put q2 (by rw [u3, t3]; exact hs.mpr hi) hij ?_
        rw [u3, hcj, t5]
        have c40 := clN (v := 40 * r + j) (by omega)
        have v40 := inN (v := 40 * r + j) (n := 320) (by omega) (by omega)
        have g201 : upM (upM m 0 9 0) (2 + 2 * r + 1) j (lnI (m 200 r) y) 201 = m 201 := by rw [upM_n _ _ _ (by omega), upM_n _ _ _ (by decide)]
        have g200 : upM (upM m 0 9 0) (2 + 2 * r + 1) j (lnI (m 200 r) y) 200 = m 200 := by rw [upM_n _ _ _ (by omega), upM_n _ _ _ (by decide)]
        refine ⟨rfl, kX6_set ?_⟩
        simp only [xX6_set_0, xX6_set_1, xX6_set_4, xX6_set_7, xX6_set_9, xX6_set_10, xX6_set_11, xX6_set_14, xX6_set_15, xX6_set_16, xX6_set_19, xX6_set_20, xX6_set_21, xX6_set_24, xX6_set_25, xX6_set_26, xX6_set_27, xX6_set_28, xX6_set_29, xX6_set_32, xX6_set_33, xX6_set_34, xX6_set_35, xX6_set_36, xX6_set_37, xX6_set_40, xX6_set_43, xX6_set_44, xX6_set_45, xX6_set_48, xX6_set_49, xX6_set_50, xX6_set_53, xX6_set_55, xX6_set_56, xX6_set_57, xX6_set_58, xX6_set_59, xX6_set_60, xX6_set_63, xX6_set_64, xX6_set_65, xX6_set_68, xX6_set_69, xX6_set_70, xX6_set_73, xX6_set_74, xX6_set_77, xX6_set_78, xX6_set_79, xX6_set_80, xX6_set_83, xX6_set_84, xX6_set_85, xX6_set_88, xX6_set_89, xX6_set_90, xX6_set_91, xX6_set_92, xX6_set_95, xX6_set_97, xX6_set_98, xX6_set_99, xX6_set_100, xX6_set_101, xX6_set_102, xX6_set_105, Bool.false_eq_true, if_true, if_false, kl_i, kl_a, kl_s, kl_u, kl_l, okS_nil, okS_cons, cat_i, cat_a, cat_s, cat_l, Nat.reduceAdd, Nat.reduceLeDiff, Nat.reduceSub, Nat.sub_zero, Nat.sub_self, Nat.zero_add, Nat.le_refl, Nat.zero_le, List.length_cons, List.length_nil, true_and, and_true, true_or, or_true, eq_self, forall_const, true_implies, not_true_eq_false, not_false_eq_true, false_implies, implies_true, false_and, and_false, false_or, or_false]
        refine t_mIsRow ?_
        rw [if_pos hx]
        simp only [xX6_set_0, xX6_set_1, xX6_set_4, xX6_set_7, xX6_set_9, xX6_set_10, xX6_set_11, xX6_set_14, xX6_set_15, xX6_set_16, xX6_set_19, xX6_set_20, xX6_set_21, xX6_set_24, xX6_set_25, xX6_set_26, xX6_set_27, xX6_set_28, xX6_set_29, xX6_set_32, xX6_set_33, xX6_set_34, xX6_set_35, xX6_set_36, xX6_set_37, xX6_set_40, xX6_set_43, xX6_set_44, xX6_set_45, xX6_set_48, xX6_set_49, xX6_set_50, xX6_set_53, xX6_set_55, xX6_set_56, xX6_set_57, xX6_set_58, xX6_set_59, xX6_set_60, xX6_set_63, xX6_set_64, xX6_set_65, xX6_set_68, xX6_set_69, xX6_set_70, xX6_set_73, xX6_set_74, xX6_set_77, xX6_set_78, xX6_set_79, xX6_set_80, xX6_set_83, xX6_set_84, xX6_set_85, xX6_set_88, xX6_set_89, xX6_set_90, xX6_set_91, xX6_set_92, xX6_set_95, xX6_set_97, xX6_set_98, xX6_set_99, xX6_set_100, xX6_set_101, xX6_set_102, xX6_set_105, Bool.false_eq_true, if_true, if_false, kl_i, kl_a, kl_s, kl_u, kl_l, okS_nil, okS_cons, cat_i, cat_a, cat_s, cat_l, Nat.reduceAdd, Nat.reduceLeDiff, Nat.reduceSub, Nat.sub_zero, Nat.sub_self, Nat.zero_add, Nat.le_refl, Nat.zero_le, List.length_cons, List.length_nil, true_and, and_true, true_or, or_true, eq_self, forall_const, true_implies, not_true_eq_false, not_false_eq_true, false_implies, implies_true, false_and, and_false, false_or, or_false, i10, M0, R1, A201, L201, hcv, hiv, g201, t4, cn]
        refine t_inI (a := 0) (b := nI n - 1) (by decide) rfl ?_
        simp only [in1 (N := n) (x := nI j) (by omega)]
        rw [if_pos hi]
        have fin : WX (tX6_set K 11) (fun r' σ2 m2 l2 => σ2 = σ ∧ r' = lnI (m 200 r) y ∧ RR m2) (89, [.ref 199, .int (nI r), .int (nI j), .int y], [.int (lnI (m 200 r) y), .int (nI (40 * r + j)), .ref 202], (0, 0), σ, upM (upM m 0 9 0) (2 + 2 * r + 1) j (lnI (m 200 r) y), l) := by
          simp only [xX6_set_89, xX6_set_90, xX6_set_91, xX6_set_92, xX6_set_95, xX6_set_97, xX6_set_98, xX6_set_99, xX6_set_100, xX6_set_101, xX6_set_102, xX6_set_105, Bool.false_eq_true, if_true, if_false, kl_i, kl_a, kl_s, kl_u, kl_l, okS_nil, okS_cons, cat_i, cat_a, cat_s, cat_l, Nat.reduceAdd, Nat.reduceLeDiff, Nat.reduceSub, Nat.sub_zero, Nat.sub_self, Nat.zero_add, Nat.le_refl, Nat.zero_le, List.length_cons, List.length_nil, true_and, and_true, true_or, or_true, eq_self, forall_const, true_implies, not_true_eq_false, not_false_eq_true, false_implies, implies_true, false_and, and_false, false_or, or_false, M0, R2, A202, L202, m40 r hr, nIk, c40, v40]
          refine t_mWell M0 ?_
          refine ⟨rfl, ?_, ?_⟩
          · rw [upM_s, upd_s]
          · refine RR_row h (fun o o1 o2 o3 o4 => ?_) ?_ (fun k hk => ?_) ?_ (fun r' hr' => ?_)
            · rw [upM_n _ _ _ o2, upM_n _ _ _ (by omega), upM_n _ _ _ (by omega), upM_n _ _ _ o1]
            · rw [upM_n _ _ _ (by decide), upM_n _ _ _ (by decide), upM_n _ _ _ (by omega), upM_s, upd_n _ _ (by decide)]
            · rw [upM_s, upd_n _ _ hk, upM_n _ _ _ (by decide), upM_n _ _ _ (by omega), upM_n _ _ _ (by decide)]
            · rw [upM_n _ _ _ (by decide), upM_n _ _ _ (by decide), upM_n _ _ _ (by omega), upM_s, upM_s]
              rfl
            · unfold rwR
              rw [upM_n _ _ _ (by omega : 2 + 2 * r' ≠ 199), upM_n _ _ _ (by omega : 2 + 2 * r' ≠ 202), upM_n _ _ _ (by omega : 2 + 2 * r' ≠ 2 + 2 * r + 1), upM_n _ _ _ (by omega : 2 + 2 * r' ≠ 0), upM_n _ _ _ (by omega : 3 + 2 * r' ≠ 199), upM_n _ _ _ (by omega : 3 + 2 * r' ≠ 202),
                upM_n _ _ _ (by decide : (200 : Nat) ≠ 199), upM_n _ _ _ (by decide : (200 : Nat) ≠ 202), g200, upM_n _ _ _ (by decide : (201 : Nat) ≠ 199), upM_n _ _ _ (by decide : (201 : Nat) ≠ 202), g201, upM_n _ _ _ (by decide : (202 : Nat) ≠ 199), upM_s, upM_n _ _ _ (by omega : 202 ≠ 2 + 2 * r + 1), upM_n _ _ _ (by decide : (202 : Nat) ≠ 0)]
              by_cases hrr : r' = r
              · subst hrr
                refine Or.inr ⟨t1, n, hn40, t3, t4, t5, fun k hk => ?_⟩
                rw [show 3 + 2 * r' = 2 + 2 * r' + 1 by omega, upM_s, upM_n _ _ _ (by omega : 2 + 2 * r' + 1 ≠ 0)]
                by_cases g : k = j
                · subst g; rw [upd_s, upd_s]
                · rw [upd_n _ _ g, upd_n _ _ (by omega), show 2 + 2 * r' + 1 = 3 + 2 * r' by omega]
                  exact t6 k hk
              · rw [upM_n _ _ _ (by omega : 3 + 2 * r' ≠ 2 + 2 * r + 1), upM_n _ _ _ (by omega : 3 + 2 * r' ≠ 0)]
                rcases h.1 r' hr' with g | ⟨s1, n', s2, s3, s4, s5, s6⟩
                · exact Or.inl g
                · refine Or.inr ⟨s1, n', s2, s3, s4, s5, fun k hk => ?_⟩
                  rw [upd_n _ _ (by omega)]
                  exact s6 k hk
        simp only [xX6_set_0, xX6_set_1, xX6_set_4, xX6_set_7, xX6_set_9, xX6_set_10, xX6_set_11, xX6_set_14, xX6_set_15, xX6_set_16, xX6_set_19, xX6_set_20, xX6_set_21, xX6_set_24, xX6_set_25, xX6_set_26, xX6_set_27, xX6_set_28, xX6_set_29, xX6_set_32, xX6_set_33, xX6_set_34, xX6_set_35, xX6_set_36, xX6_set_37, xX6_set_40, xX6_set_43, xX6_set_44, xX6_set_45, xX6_set_48, xX6_set_49, xX6_set_50, xX6_set_53, xX6_set_55, xX6_set_56, xX6_set_57, xX6_set_58, xX6_set_59, xX6_set_60, xX6_set_63, xX6_set_64, xX6_set_65, xX6_set_68, xX6_set_69, xX6_set_70, xX6_set_73, xX6_set_74, xX6_set_77, xX6_set_78, xX6_set_79, xX6_set_80, xX6_set_83, xX6_set_84, xX6_set_85, xX6_set_88, Bool.false_eq_true, if_true, if_false, kl_i, kl_a, kl_s, kl_u, kl_l, okS_nil, okS_cons, cat_i, cat_a, cat_s, cat_l, Nat.reduceAdd, Nat.reduceLeDiff, Nat.reduceSub, Nat.sub_zero, Nat.sub_self, Nat.zero_add, Nat.le_refl, Nat.zero_le, List.length_cons, List.length_nil, true_and, and_true, true_or, or_true, eq_self, forall_const, true_implies, not_true_eq_false, not_false_eq_true, false_implies, implies_true, false_and, and_false, false_or, or_false, M0, R0, R2, A200, L200, hcv, hiv, i10, m40 r hr, nIk, g200]
        by_cases l0 : m 200 r = 0
        · have el : lnI (m 200 r) y = y.toInt8.toInt32 := if_pos l0
          rw [el] at fin ⊢
          exact ⟨fun _ => fin, fun g => absurd l0 g⟩
        · refine ⟨fun g => absurd g l0, fun _ => ?_⟩
          by_cases l1 : m 200 r = 1
          · have el : lnI (m 200 r) y = y.toInt16.toInt32 := (if_neg l0).trans (if_pos l1)
            rw [el] at fin ⊢
            exact ⟨fun _ => fin, fun g => absurd l1 g⟩
          · have el : lnI (m 200 r) y = y := (if_neg l0).trans (if_neg l1)
            rw [el] at fin ⊢
            exact ⟨fun g => absurd g l1, fun _ => fin⟩
      · rw [if_neg (fun g => hi ((sp1 hn40).mp g))]
        simp only [xX5_set_0, xX5_set_1, xX5_set_4, xX5_set_7, xX5_set_9, xX5_set_10, xX5_set_11, xX5_set_14, xX5_set_15, xX5_set_16, xX5_set_19, xX5_set_22, xX5_set_23, xX5_set_24, xX5_set_27, xX5_set_28, xX5_set_29, xX5_set_32, xX5_set_33, xX5_set_34, xX5_set_35, xX5_set_36, xX5_set_39, xX5_set_42, xX5_set_43, xX5_set_44, xX5_set_47, xX5_set_48, xX5_set_49, xX5_set_50, xX5_set_53, xX5_set_54, xX5_set_57, xX5_set_58, xX5_set_59, xX5_set_60, xX5_set_61, xX5_set_64, Bool.false_eq_true, if_true, if_false, kl_i, kl_a, kl_s, kl_u, kl_l, okS_nil, okS_cons, cat_i, cat_a, cat_s, cat_l, Nat.reduceAdd, Nat.reduceLeDiff, Nat.reduceSub, Nat.sub_zero, Nat.sub_self, Nat.zero_add, Nat.le_refl, Nat.zero_le, List.length_cons, List.length_nil, true_and, and_true, true_or, or_true, eq_self, forall_const, true_implies, not_true_eq_false, not_false_eq_true, false_implies, implies_true, false_and, and_false, false_or, or_false, H0, F0, F1, F2, F3, F4, F5, F6, F7, P33.1, P39.1, P45.1]
        refine t_found H0 ?_
        refine ⟨rfl, kX6_set ?_⟩
        simp only [xX6_set_0, xX6_set_1, xX6_set_4, xX6_set_7, xX6_set_9, xX6_set_10, xX6_set_11, xX6_set_14, xX6_set_15, xX6_set_16, xX6_set_19, xX6_set_20, xX6_set_21, xX6_set_24, xX6_set_25, xX6_set_26, xX6_set_27, xX6_set_28, xX6_set_29, xX6_set_32, xX6_set_33, xX6_set_34, xX6_set_35, xX6_set_36, xX6_set_37, xX6_set_40, xX6_set_43, xX6_set_44, xX6_set_45, xX6_set_48, xX6_set_49, xX6_set_50, xX6_set_53, xX6_set_55, xX6_set_56, xX6_set_57, xX6_set_58, xX6_set_59, xX6_set_60, xX6_set_63, xX6_set_64, xX6_set_65, xX6_set_68, xX6_set_69, xX6_set_70, xX6_set_73, xX6_set_74, xX6_set_77, xX6_set_78, xX6_set_79, xX6_set_80, xX6_set_83, xX6_set_84, xX6_set_85, xX6_set_88, xX6_set_89, xX6_set_90, xX6_set_91, xX6_set_92, xX6_set_95, xX6_set_97, xX6_set_98, xX6_set_99, xX6_set_100, xX6_set_101, xX6_set_102, xX6_set_105, Bool.false_eq_true, if_true, if_false, kl_i, kl_a, kl_s, kl_u, kl_l, okS_nil, okS_cons, cat_i, cat_a, cat_s, cat_l, Nat.reduceAdd, Nat.reduceLeDiff, Nat.reduceSub, Nat.sub_zero, Nat.sub_self, Nat.zero_add, Nat.le_refl, Nat.zero_le, List.length_cons, List.length_nil, true_and, and_true, true_or, or_true, eq_self, forall_const, true_implies, not_true_eq_false, not_false_eq_true, false_implies, implies_true, false_and, and_false, false_or, or_false]
        refine t_mIsRow ?_
        rw [if_pos hx]
        have e1 : upM m 0 9 2 201 = m 201 := upM_n _ _ _ (by decide)
        simp only [xX6_set_0, xX6_set_1, xX6_set_4, xX6_set_7, xX6_set_9, xX6_set_10, xX6_set_11, xX6_set_14, xX6_set_15, xX6_set_16, xX6_set_19, xX6_set_20, xX6_set_21, xX6_set_24, xX6_set_25, xX6_set_26, xX6_set_27, xX6_set_28, xX6_set_29, xX6_set_32, xX6_set_33, xX6_set_34, xX6_set_35, xX6_set_36, xX6_set_37, xX6_set_40, xX6_set_43, xX6_set_44, xX6_set_45, xX6_set_48, xX6_set_49, xX6_set_50, xX6_set_53, xX6_set_55, xX6_set_56, xX6_set_57, xX6_set_58, xX6_set_59, xX6_set_60, xX6_set_63, xX6_set_64, xX6_set_65, xX6_set_68, xX6_set_69, xX6_set_70, xX6_set_73, xX6_set_74, xX6_set_77, xX6_set_78, xX6_set_79, xX6_set_80, xX6_set_83, xX6_set_84, xX6_set_85, xX6_set_88, xX6_set_89, xX6_set_90, xX6_set_91, xX6_set_92, xX6_set_95, xX6_set_97, xX6_set_98, xX6_set_99, xX6_set_100, xX6_set_101, xX6_set_102, xX6_set_105, Bool.false_eq_true, if_true, if_false, kl_i, kl_a, kl_s, kl_u, kl_l, okS_nil, okS_cons, cat_i, cat_a, cat_s, cat_l, Nat.reduceAdd, Nat.reduceLeDiff, Nat.reduceSub, Nat.sub_zero, Nat.sub_self, Nat.zero_add, Nat.le_refl, Nat.zero_le, List.length_cons, List.length_nil, true_and, and_true, true_or, or_true, eq_self, forall_const, true_implies, not_true_eq_false, not_false_eq_true, false_implies, implies_true, false_and, and_false, false_or, or_false, i10, M0, R1, A201, L201, hcv, hiv, e1, t4, cn]
        refine t_inI (a := 0) (b := nI n - 1) (by decide) rfl ?_
        simp only [in1 (N := n) (x := i) (by omega)]
        rw [if_neg hi]
        simp only [xX6_set_0, xX6_set_1, xX6_set_4, xX6_set_7, xX6_set_9, xX6_set_10, xX6_set_11, xX6_set_14, xX6_set_15, xX6_set_16, xX6_set_19, xX6_set_20, xX6_set_21, xX6_set_24, xX6_set_25, xX6_set_26, xX6_set_27, xX6_set_28, xX6_set_29, xX6_set_32, xX6_set_33, xX6_set_34, xX6_set_35, xX6_set_36, xX6_set_37, xX6_set_40, xX6_set_43, xX6_set_44, xX6_set_45, xX6_set_48, xX6_set_49, xX6_set_50, xX6_set_53, xX6_set_55, xX6_set_56, xX6_set_57, xX6_set_58, xX6_set_59, xX6_set_60, xX6_set_63, xX6_set_64, xX6_set_65, xX6_set_68, xX6_set_69, xX6_set_70, xX6_set_73, xX6_set_74, xX6_set_77, xX6_set_78, xX6_set_79, xX6_set_80, xX6_set_83, xX6_set_84, xX6_set_85, xX6_set_88, xX6_set_89, xX6_set_90, xX6_set_91, xX6_set_92, xX6_set_95, xX6_set_97, xX6_set_98, xX6_set_99, xX6_set_100, xX6_set_101, xX6_set_102, xX6_set_105, Bool.false_eq_true, if_true, if_false, kl_i, kl_a, kl_s, kl_u, kl_l, okS_nil, okS_cons, cat_i, cat_a, cat_s, cat_l, Nat.reduceAdd, Nat.reduceLeDiff, Nat.reduceSub, Nat.sub_zero, Nat.sub_self, Nat.zero_add, Nat.le_refl, Nat.zero_le, List.length_cons, List.length_nil, true_and, and_true, true_or, or_true, eq_self, forall_const, true_implies, not_true_eq_false, not_false_eq_true, false_implies, implies_true, false_and, and_false, false_or, or_false, M0]
        refine t_mFound M0 ?_
        exact ⟨rfl, rfl, RR_st 2 h⟩
  · rw [if_neg hx]
    simp only [xX5_set_0, xX5_set_1, xX5_set_4, xX5_set_7, xX5_set_9, xX5_set_10, xX5_set_11, xX5_set_14, xX5_set_15, xX5_set_16, xX5_set_19, xX5_set_22, xX5_set_23, xX5_set_24, xX5_set_27, xX5_set_28, xX5_set_29, xX5_set_32, xX5_set_33, xX5_set_34, xX5_set_35, xX5_set_36, xX5_set_39, xX5_set_42, xX5_set_43, xX5_set_44, xX5_set_47, xX5_set_48, xX5_set_49, xX5_set_50, xX5_set_53, xX5_set_54, xX5_set_57, xX5_set_58, xX5_set_59, xX5_set_60, xX5_set_61, xX5_set_64, Bool.false_eq_true, if_true, if_false, kl_i, kl_a, kl_s, kl_u, kl_l, okS_nil, okS_cons, cat_i, cat_a, cat_s, cat_l, Nat.reduceAdd, Nat.reduceLeDiff, Nat.reduceSub, Nat.sub_zero, Nat.sub_self, Nat.zero_add, Nat.le_refl, Nat.zero_le, List.length_cons, List.length_nil, true_and, and_true, true_or, or_true, eq_self, forall_const, true_implies, not_true_eq_false, not_false_eq_true, false_implies, implies_true, false_and, and_false, false_or, or_false, H0, F0, F1, F2, F3, F4, F5, F6, F7, P33.1, P39.1, P45.1]
    refine kX6_set ?_
    simp only [xX6_set_0, xX6_set_1, xX6_set_4, xX6_set_7, xX6_set_9, xX6_set_10, xX6_set_11, xX6_set_14, xX6_set_15, xX6_set_16, xX6_set_19, xX6_set_20, xX6_set_21, xX6_set_24, xX6_set_25, xX6_set_26, xX6_set_27, xX6_set_28, xX6_set_29, xX6_set_32, xX6_set_33, xX6_set_34, xX6_set_35, xX6_set_36, xX6_set_37, xX6_set_40, xX6_set_43, xX6_set_44, xX6_set_45, xX6_set_48, xX6_set_49, xX6_set_50, xX6_set_53, xX6_set_55, xX6_set_56, xX6_set_57, xX6_set_58, xX6_set_59, xX6_set_60, xX6_set_63, xX6_set_64, xX6_set_65, xX6_set_68, xX6_set_69, xX6_set_70, xX6_set_73, xX6_set_74, xX6_set_77, xX6_set_78, xX6_set_79, xX6_set_80, xX6_set_83, xX6_set_84, xX6_set_85, xX6_set_88, xX6_set_89, xX6_set_90, xX6_set_91, xX6_set_92, xX6_set_95, xX6_set_97, xX6_set_98, xX6_set_99, xX6_set_100, xX6_set_101, xX6_set_102, xX6_set_105, Bool.false_eq_true, if_true, if_false, kl_i, kl_a, kl_s, kl_u, kl_l, okS_nil, okS_cons, cat_i, cat_a, cat_s, cat_l, Nat.reduceAdd, Nat.reduceLeDiff, Nat.reduceSub, Nat.sub_zero, Nat.sub_self, Nat.zero_add, Nat.le_refl, Nat.zero_le, List.length_cons, List.length_nil, true_and, and_true, true_or, or_true, eq_self, forall_const, true_implies, not_true_eq_false, not_false_eq_true, false_implies, implies_true, false_and, and_false, false_or, or_false]
    refine t_mIsRow ?_
    rw [if_neg hx]
    simp only [xX6_set_0, xX6_set_1, xX6_set_4, xX6_set_7, xX6_set_9, xX6_set_10, xX6_set_11, xX6_set_14, xX6_set_15, xX6_set_16, xX6_set_19, xX6_set_20, xX6_set_21, xX6_set_24, xX6_set_25, xX6_set_26, xX6_set_27, xX6_set_28, xX6_set_29, xX6_set_32, xX6_set_33, xX6_set_34, xX6_set_35, xX6_set_36, xX6_set_37, xX6_set_40, xX6_set_43, xX6_set_44, xX6_set_45, xX6_set_48, xX6_set_49, xX6_set_50, xX6_set_53, xX6_set_55, xX6_set_56, xX6_set_57, xX6_set_58, xX6_set_59, xX6_set_60, xX6_set_63, xX6_set_64, xX6_set_65, xX6_set_68, xX6_set_69, xX6_set_70, xX6_set_73, xX6_set_74, xX6_set_77, xX6_set_78, xX6_set_79, xX6_set_80, xX6_set_83, xX6_set_84, xX6_set_85, xX6_set_88, xX6_set_89, xX6_set_90, xX6_set_91, xX6_set_92, xX6_set_95, xX6_set_97, xX6_set_98, xX6_set_99, xX6_set_100, xX6_set_101, xX6_set_102, xX6_set_105, Bool.false_eq_true, if_true, if_false, kl_i, kl_a, kl_s, kl_u, kl_l, okS_nil, okS_cons, cat_i, cat_a, cat_s, cat_l, Nat.reduceAdd, Nat.reduceLeDiff, Nat.reduceSub, Nat.sub_zero, Nat.sub_self, Nat.zero_add, Nat.le_refl, Nat.zero_le, List.length_cons, List.length_nil, true_and, and_true, true_or, or_true, eq_self, forall_const, true_implies, not_true_eq_false, not_false_eq_true, false_implies, implies_true, false_and, and_false, false_or, or_false]
    exact h
