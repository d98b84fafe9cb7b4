/-! calls on rows: drop, set, row -/
theorem RR_row {m m' : Mm} (h : RR m) (e : ∀ o, o ≠ 0 → o ≠ 199 → ¬ (2 ≤ o ∧ o < 18) → ¬ (200 ≤ o ∧ o < 203) → m' o = m o) (e8 : m' 0 8 = m 0 8) (e9 : ∀ k, k ≠ 3 → m' 199 k = m 199 k) (hs : m' 0 9 = m' 199 3) (hr : cRow m') : RR m' := by
  obtain ⟨h1, h2, h3, h4, h5, h6, h7⟩ := h
  have e' := fun o (n1 : o ≠ 0) (n2 : o ≠ 199) (n3 : ¬ (2 ≤ o ∧ o < 18)) (n4 : ¬ (200 ≤ o ∧ o < 203)) => e o n1 n2 n3 n4
  refine ⟨hr, hs, ?_, cTp_x ?_ ?_ (e9 5 (by decide)) (e 32 (by omega) (by omega) (by omega) (by omega)) (e 203 (by omega) (by omega) (by omega) (by omega)) h4, cPl_x (fun o ho => e o (by omega) (by omega) (by omega) (by omega)) (e9 7 (by decide)) (e9 9 (by decide)) h5, cIm_x (fun o ho => e o (by omega) (by omega) (by omega) (by omega)) h6, cTr_x (fun o ho => e o (by omega) (by omega) (by omega) (by omega)) (e9 13 (by decide)) h7⟩
  · unfold cFl; rw [e8, e9 6 (by decide)]; exact h3
  · rw [e 31 (by omega) (by omega) (by omega) (by omega)]
  · rw [e 31 (by omega) (by omega) (by omega) (by omega)]
theorem row_of {x : Int32} (h : ¬ x < 0 ∧ x < 8) : ∃ r : Nat, r < 8 ∧ x = nI r := nat_of (N := 8) (by omega) h.1 h.2
theorem rw_there {m : Mm} {r : Nat} (h : rwR m r) : (m (2 + 2 * r) 1 = 0 ∧ m 201 r < 0) ∨ (m (2 + 2 * r) 1 ≠ 0 ∧ ¬ m 201 r < 0) := by
  rcases h with ⟨h1, h2⟩ | ⟨h1, n, h2, h3, h4, _⟩
  · exact Or.inl ⟨h1, by rw [h2]; decide⟩
  · exact Or.inr ⟨by rw [h1]; decide, by rw [h4]; exact nI_pos (by omega)⟩
theorem m_bad {K : Cx} {σ : Sg} {m : Mm} {l : Ml} {Q : Rt} (hQ : Q (-1000001) σ m l) : Q (-1000001) σ m l := hQ
theorem p_drop {K : Cx} {σ : Sg} (hw : WF σ) (x : Int32) : PAIR K σ YX5_drop YX6_drop [.int x] := by
  intro m l h
  obtain ⟨wN, wR, wT, wA, wL, wM, wI⟩ := hw
  have hN := wN
  obtain ⟨H0, F0, F1, F2, F3, F4, F5, F6, F7, P33, P39, P45⟩ := wN
  obtain ⟨M0, R0, R1, R2, R4, R8, R10, R11, R12, R14, R20, R21, R22, A200, L200, A201, L201, A202, L202, A203, L203, A204, L204, A205, L205, A206, L206, A207, L207, A208, L208, A209, L209, A210, L210, A211, L211⟩ := wM
  obtain ⟨W1, W2, W3⟩ := wR
  refine kX5_drop ?_
  simp only [xX5_drop_0, xX5_drop_1, xX5_drop_4, xX5_drop_7, xX5_drop_9, xX5_drop_10, xX5_drop_11, xX5_drop_14, xX5_drop_15, xX5_drop_16, xX5_drop_19, xX5_drop_22, xX5_drop_23, xX5_drop_24, xX5_drop_27, xX5_drop_28, xX5_drop_29, xX5_drop_30, xX5_drop_33, xX5_drop_34, xX5_drop_37, xX5_drop_38, xX5_drop_39, xX5_drop_40, xX5_drop_43, xX5_drop_44, xX5_drop_47, xX5_drop_48, xX5_drop_49, xX5_drop_52, Bool.false_eq_true, if_true, if_false, kl_i, kl_a, kl_s, kl_u, kl_l, okS_nil, okS_cons, cat_i, cat_a, cat_s, cat_l, Nat.reduceAdd, Nat.reduceLeDiff, Nat.reduceSub, Nat.sub_zero, Nat.sub_self, Nat.zero_add, Nat.le_refl, Nat.zero_le, List.length_cons, List.length_nil, true_and, and_true, true_or, or_true, eq_self, forall_const, true_implies, not_true_eq_false, not_false_eq_true, false_implies, implies_true, false_and, and_false, false_or, or_false, H0, F0, F1, F2, F3, F4, F5, F6, F7, P33.1, P39.1, P45.1]
  refine t_isRow ?_
  by_cases hx : ¬ x < 0 ∧ x < 8
  · obtain ⟨r, hr, e⟩ := row_of hx
    rw [if_pos hx]
    subst e
    obtain ⟨q1, q2⟩ := W3 r hr
    have hcv := clN (v := r) (by omega)
    have hiv := inN (v := r) (n := 8) hr (by omega)
    have u0 : ∀ k y, upM m 0 k y (2 + 2 * r) = m (2 + 2 * r) := fun _ _ => upM_n _ _ _ (by omega)
    simp only [xX5_drop_0, xX5_drop_1, xX5_drop_4, xX5_drop_7, xX5_drop_9, xX5_drop_10, xX5_drop_11, xX5_drop_14, xX5_drop_15, xX5_drop_16, xX5_drop_19, xX5_drop_22, xX5_drop_23, xX5_drop_24, xX5_drop_27, xX5_drop_28, xX5_drop_29, xX5_drop_30, xX5_drop_33, xX5_drop_34, xX5_drop_37, xX5_drop_38, xX5_drop_39, xX5_drop_40, xX5_drop_43, xX5_drop_44, xX5_drop_47, xX5_drop_48, xX5_drop_49, xX5_drop_52, Bool.false_eq_true, if_true, if_false, kl_i, kl_a, kl_s, kl_u, kl_l, okS_nil, okS_cons, cat_i, cat_a, cat_s, cat_l, Nat.reduceAdd, Nat.reduceLeDiff, Nat.reduceSub, Nat.sub_zero, Nat.sub_self, Nat.zero_add, Nat.le_refl, Nat.zero_le, List.length_cons, List.length_nil, true_and, and_true, true_or, or_true, eq_self, forall_const, true_implies, not_true_eq_false, not_false_eq_true, false_implies, implies_true, false_and, and_false, false_or, or_false, H0, F0, F1, F2, F3, F4, F5, F6, F7, P33.1, P39.1, P45.1, W1, W2, hcv, hiv, q1, q2.1, i10, u0]
    have mod : ∀ (m1 : Mm) (Q : Rt), m1 201 = m 201 → (m 201 r < 0 → Q (-1000010 - 1) σ (upM m1 199 3 1) l) → (¬ m 201 r < 0 → Q (m 201 r) σ (upM (upM m1 201 r (-1)) 199 3 0) l) → CT K 12 YX6_drop [.ref 199, .int (nI r)] σ m1 l Q := by
      intro m1 Q e1 g0 g1
      refine kX6_drop ?_
      simp only [xX6_drop_0, xX6_drop_1, xX6_drop_4, xX6_drop_7, xX6_drop_9, xX6_drop_10, xX6_drop_11, xX6_drop_14, xX6_drop_15, xX6_drop_16, xX6_drop_19, xX6_drop_20, xX6_drop_21, xX6_drop_24, xX6_drop_25, xX6_drop_26, xX6_drop_29, xX6_drop_30, xX6_drop_31, xX6_drop_32, xX6_drop_33, xX6_drop_36, xX6_drop_37, xX6_drop_38, xX6_drop_39, xX6_drop_40, xX6_drop_41, xX6_drop_44, Bool.false_eq_true, if_true, if_false, kl_i, kl_a, kl_s, kl_u, kl_l, okS_nil, okS_cons, cat_i, cat_a, cat_s, cat_l, Nat.reduceAdd, Nat.reduceLeDiff, Nat.reduceSub, Nat.sub_zero, Nat.sub_self, Nat.zero_add, Nat.le_refl, Nat.zero_le, List.length_cons, List.length_nil, true_and, and_true, true_or, or_true, eq_self, forall_const, true_implies, not_true_eq_false, not_false_eq_true, false_implies, implies_true, false_and, and_false, false_or, or_false]
      refine t_mIsRow ?_
      rw [if_pos hx]
      simp only [xX6_drop_0, xX6_drop_1, xX6_drop_4, xX6_drop_7, xX6_drop_9, xX6_drop_10, xX6_drop_11, xX6_drop_14, xX6_drop_15, xX6_drop_16, xX6_drop_19, xX6_drop_20, xX6_drop_21, xX6_drop_24, xX6_drop_25, xX6_drop_26, xX6_drop_29, xX6_drop_30, xX6_drop_31, xX6_drop_32, xX6_drop_33, xX6_drop_36, xX6_drop_37, xX6_drop_38, xX6_drop_39, xX6_drop_40, xX6_drop_41, xX6_drop_44, Bool.false_eq_true, if_true, if_false, kl_i, kl_a, kl_s, kl_u, kl_l, okS_nil, okS_cons, cat_i, cat_a, cat_s, cat_l, Nat.reduceAdd, Nat.reduceLeDiff, Nat.reduceSub, Nat.sub_zero, Nat.sub_self, Nat.zero_add, Nat.le_refl, Nat.zero_le, List.length_cons, List.length_nil, true_and, and_true, true_or, or_true, eq_self, forall_const, true_implies, not_true_eq_false, not_false_eq_true, false_implies, implies_true, false_and, and_false, false_or, or_false, i10, M0, R1, A201, L201, hcv, hiv, e1]
      refine ⟨fun g => ?_, fun g => ?_⟩
      · refine t_mFound M0 ?_
        exact g0 g
      · refine t_mWell M0 ?_
        exact g1 g
    have nx : ∀ k y, upM m 0 k y 199 = m 199 := fun _ _ => upM_n _ _ _ (by decide)
    have n2 : ∀ k y, upM m 0 k y 201 = m 201 := fun _ _ => upM_n _ _ _ (by decide)
    rcases h.1 r hr with ⟨t1, t2⟩ | ⟨t1, n, hn40, t3, t4, t5, t6⟩
    · rw [t1]
      refine ⟨fun _ => ?_, fun g => absurd rfl g⟩
      refine t_found H0 ?_
      refine ⟨rfl, mod _ _ (n2 _ _) (fun _ => ⟨rfl, rfl, RR_st 1 h⟩) (fun g => absurd (by rw [t2]; decide) g)⟩
    · rw [t1]
      refine ⟨fun g => absurd g (by decide), fun _ => ?_⟩
      simp only [upM_s, upd, Nat.reduceEqDiff, Bool.false_eq_true, if_true, if_false, kl_i, kl_a, kl_s, kl_u, kl_l, okS_nil, okS_cons, cat_i, cat_a, cat_s, cat_l, Nat.reduceAdd, Nat.reduceLeDiff, Nat.reduceSub, Nat.sub_zero, Nat.sub_self, Nat.zero_add, Nat.le_refl, Nat.zero_le, List.length_cons, List.length_nil, true_and, and_true, true_or, or_true, eq_self, forall_const, true_implies, not_true_eq_false, not_false_eq_true, false_implies, implies_true, false_and, and_false, false_or, or_false, t3]
      refine mod _ _ ?_ (fun g => ?_) (fun _ => ⟨rfl, by rw [u0, t3]; exact t4, ?_⟩)
      · rw [upM_n _ _ _ (by omega), n2]
      · rw [t4] at g; exact absurd g (nI_pos (by omega))
      · refine RR_row h (fun o o1 o2 o3 o4 => ?_) ?_ (fun k hk => ?_) ?_ (fun r' hr' => ?_)
        · rw [upM_n _ _ _ o2, upM_n _ _ _ (by omega), upM_n _ _ _ (by omega), upM_n _ _ _ o1]
        · rw [upM_n _ _ _ (by decide), upM_n _ _ _ (by decide), upM_n _ _ _ (by omega), upM_s, upd_n _ _ (by decide)]
        · rw [upM_s, upd_n _ _ hk, upM_n _ _ _ (by decide), upM_n _ _ _ (by omega), upM_n _ _ _ (by decide)]
        · rw [upM_n _ _ _ (by decide), upM_n _ _ _ (by decide), upM_n _ _ _ (by omega), upM_s, upM_s]
          rfl
        · unfold rwR
          rw [upM_n _ _ _ (by omega : 2 + 2 * r' ≠ 199), upM_n _ _ _ (by omega : 2 + 2 * r' ≠ 201), upM_n _ _ _ (by omega : 3 + 2 * r' ≠ 199), upM_n _ _ _ (by omega : 3 + 2 * r' ≠ 201), upM_n _ _ _ (by omega : 3 + 2 * r' ≠ 2 + 2 * r), upM_n _ _ _ (by omega : 3 + 2 * r' ≠ 0),
            upM_n _ _ _ (by decide : (200 : Nat) ≠ 199), upM_n _ _ _ (by decide : (200 : Nat) ≠ 201), upM_n _ _ _ (by omega : 200 ≠ 2 + 2 * r), upM_n _ _ _ (by decide : (200 : Nat) ≠ 0), upM_n _ _ _ (by decide : (201 : Nat) ≠ 199), upM_s, upM_n _ _ _ (by omega : 201 ≠ 2 + 2 * r), upM_n _ _ _ (by decide : (201 : Nat) ≠ 0),
            upM_n _ _ _ (by decide : (202 : Nat) ≠ 199), upM_n _ _ _ (by decide : (202 : Nat) ≠ 201), upM_n _ _ _ (by omega : 202 ≠ 2 + 2 * r), upM_n _ _ _ (by decide : (202 : Nat) ≠ 0)]
          by_cases hrr : r' = r
          · subst hrr
            rw [upM_s, upd_s, upd_s]
            exact Or.inl ⟨rfl, rfl⟩
          · rw [upM_n _ _ _ (by omega : 2 + 2 * r' ≠ 2 + 2 * r), upM_n _ _ _ (by omega : 2 + 2 * r' ≠ 0), upd_n _ _ hrr]
            exact h.1 r' hr'
  · rw [if_neg hx]
    simp only [xX5_drop_0, xX5_drop_1, xX5_drop_4, xX5_drop_7, xX5_drop_9, xX5_drop_10, xX5_drop_11, xX5_drop_14, xX5_drop_15, xX5_drop_16, xX5_drop_19, xX5_drop_22, xX5_drop_23, xX5_drop_24, xX5_drop_27, xX5_drop_28, xX5_drop_29, xX5_drop_30, xX5_drop_33, xX5_drop_34, xX5_drop_37, xX5_drop_38, xX5_drop_39, xX5_drop_40, xX5_drop_43, xX5_drop_44, xX5_drop_47, xX5_drop_48, xX5_drop_49, xX5_drop_52, Bool.false_eq_true, if_true, if_false, kl_i, kl_a, kl_s, kl_u, kl_l, okS_nil, okS_cons, cat_i, cat_a, cat_s, cat_l, Nat.reduceAdd, Nat.reduceLeDiff, Nat.reduceSub, Nat.sub_zero, Nat.sub_self, Nat.zero_add, Nat.le_refl, Nat.zero_le, List.length_cons, List.length_nil, true_and, and_true, true_or, or_true, eq_self, forall_const, true_implies, not_true_eq_false, not_false_eq_true, false_implies, implies_true, false_and, and_false, false_or, or_false, H0, F0, F1, F2, F3, F4, F5, F6, F7, P33.1, P39.1, P45.1]
    refine kX6_drop ?_
    simp only [xX6_drop_0, xX6_drop_1, xX6_drop_4, xX6_drop_7, xX6_drop_9, xX6_drop_10, xX6_drop_11, xX6_drop_14, xX6_drop_15, xX6_drop_16, xX6_drop_19, xX6_drop_20, xX6_drop_21, xX6_drop_24, xX6_drop_25, xX6_drop_26, xX6_drop_29, xX6_drop_30, xX6_drop_31, xX6_drop_32, xX6_drop_33, xX6_drop_36, xX6_drop_37, xX6_drop_38, xX6_drop_39, xX6_drop_40, xX6_drop_41, xX6_drop_44, Bool.false_eq_true, if_true, if_false, kl_i, kl_a, kl_s, kl_u, kl_l, okS_nil, okS_cons, cat_i, cat_a, cat_s, cat_l, Nat.reduceAdd, Nat.reduceLeDiff, Nat.reduceSub, Nat.sub_zero, Nat.sub_self, Nat.zero_add, Nat.le_refl, Nat.zero_le, List.length_cons, List.length_nil, true_and, and_true, true_or, or_true, eq_self, forall_const, true_implies, not_true_eq_false, not_false_eq_true, false_implies, implies_true, false_and, and_false, false_or, or_false]
    refine t_mIsRow ?_
    rw [if_neg hx]
    simp only [xX6_drop_0, xX6_drop_1, xX6_drop_4, xX6_drop_7, xX6_drop_9, xX6_drop_10, xX6_drop_11, xX6_drop_14, xX6_drop_15, xX6_drop_16, xX6_drop_19, xX6_drop_20, xX6_drop_21, xX6_drop_24, xX6_drop_25, xX6_drop_26, xX6_drop_29, xX6_drop_30, xX6_drop_31, xX6_drop_32, xX6_drop_33, xX6_drop_36, xX6_drop_37, xX6_drop_38, xX6_drop_39, xX6_drop_40, xX6_drop_41, xX6_drop_44, Bool.false_eq_true, if_true, if_false, kl_i, kl_a, kl_s, kl_u, kl_l, okS_nil, okS_cons, cat_i, cat_a, cat_s, cat_l, Nat.reduceAdd, Nat.reduceLeDiff, Nat.reduceSub, Nat.sub_zero, Nat.sub_self, Nat.zero_add, Nat.le_refl, Nat.zero_le, List.length_cons, List.length_nil, true_and, and_true, true_or, or_true, eq_self, forall_const, true_implies, not_true_eq_false, not_false_eq_true, false_implies, implies_true, false_and, and_false, false_or, or_false]
    exact h
