/-! calls on images, acts: restore, undo -/
theorem tri_a {N : Nat} {q : Mm} {a a' : Nat → Int32} {L : Nat → Prop} (h7 : N ≤ 7) (ha : ∀ j, j < 40 → a' j = a j) (h : triQ N q a L) : triQ N q a' L := triQ_x h7 (fun _ _ => rfl) ha h
theorem p_restore {K : Cx} {σ : Sg} (hw : WF σ) (x : Int32) : PAIR K σ YX5_restore YX6_restore [.int x] := by
  intro m l h
  obtain ⟨wN, wR, wT, wA, wL, wM, wI⟩ := hw
  have hA51 := wA
  obtain ⟨H0, F0, F1, F2, F3, F4, F5, F6, F7, P33, P39, P45⟩ := wN
  obtain ⟨M0, R0, R1, R2, R4, R8, R10, R11, R12, R14, R20, R21, R22, A200, L200, A201, L201, A202, L202, A203, L203, A204, L204, A205, L205, A206, L206, A207, L207, A208, L208, A209, L209, A210, L210, A211, L211⟩ := wM
  obtain ⟨I1, I2, I3⟩ := wI
  obtain ⟨N, X, A, h7, hn, hb, ht, hz, hX, hA, a1, a2, a3, ha⟩ := h.2.2.2.2.1
  have modb : ∀ r, ((¬ (¬ x < 0 ∧ x < 2) ∧ r = -1000001) ∨ (∃ k, k < 2 ∧ x = nI k ∧ m 207 k = 0 ∧ r = -1000002)) → CT K 12 YX6_restore [.ref 199, .int x] σ m l (fun r' σ2 m2 l2 => σ2 = σ ∧ r' = r ∧ RR m2) := by
    intro r hr
    refine kX6_restore ?_
    simp only [xX6_restore_0, xX6_restore_1, xX6_restore_2, xX6_restore_3, xX6_restore_4, xX6_restore_7, xX6_restore_10, xX6_restore_12, xX6_restore_13, xX6_restore_14, xX6_restore_17, xX6_restore_18, xX6_restore_19, xX6_restore_22, xX6_restore_24, xX6_restore_25, xX6_restore_26, xX6_restore_29, xX6_restore_31, xX6_restore_32, xX6_restore_33, xX6_restore_34, xX6_restore_37, xX6_restore_38, xX6_restore_41, xX6_restore_42, xX6_restore_43, xX6_restore_46, xX6_restore_47, Bool.false_eq_true, if_true, if_false, kl_i, kl_a, kl_s, kl_u, kl_l, okS_nil, okS_cons, cat_i, cat_a, cat_s, cat_l, Nat.reduceAdd, Nat.reduceLeDiff, Nat.reduceSub, Nat.sub_zero, Nat.sub_self, Nat.zero_add, Nat.le_refl, Nat.zero_le, List.length_cons, List.length_nil, true_and, and_true, true_or, or_true, eq_self, forall_const, true_implies, not_true_eq_false, not_false_eq_true, false_implies, implies_true, false_and, and_false, false_or, or_false]
    refine t_inI (a := 0) (b := 1) (by decide) (by decide) ?_
    simp only [k2]
    rcases hr with ⟨g1, g2⟩ | ⟨k, g0, g1, g2, g3⟩
    · rw [if_neg g1]
      simp only [xX6_restore_0, xX6_restore_1, xX6_restore_2, xX6_restore_3, xX6_restore_4, xX6_restore_7, xX6_restore_10, xX6_restore_12, xX6_restore_13, xX6_restore_14, xX6_restore_17, xX6_restore_18, xX6_restore_19, xX6_restore_22, xX6_restore_24, xX6_restore_25, xX6_restore_26, xX6_restore_29, xX6_restore_31, xX6_restore_32, xX6_restore_33, xX6_restore_34, xX6_restore_37, xX6_restore_38, xX6_restore_41, xX6_restore_42, xX6_restore_43, xX6_restore_46, xX6_restore_47, Bool.false_eq_true, if_true, if_false, kl_i, kl_a, kl_s, kl_u, kl_l, okS_nil, okS_cons, cat_i, cat_a, cat_s, cat_l, Nat.reduceAdd, Nat.reduceLeDiff, Nat.reduceSub, Nat.sub_zero, Nat.sub_self, Nat.zero_add, Nat.le_refl, Nat.zero_le, List.length_cons, List.length_nil, true_and, and_true, true_or, or_true, eq_self, forall_const, true_implies, not_true_eq_false, not_false_eq_true, false_implies, implies_true, false_and, and_false, false_or, or_false]
      exact ⟨g2.symm, h⟩
    · subst g1
      have hcv := clN (v := k) (by omega)
      have hiv := inN (v := k) (n := 2) g0 (by omega)
      have hx : ¬ nI k < 0 ∧ nI k < 2 := ⟨nI_pos (by omega), (ltN (a := k) (b := 2) (by omega) (by omega)).mpr g0⟩
      rw [if_pos hx]
      simp only [xX6_restore_0, xX6_restore_1, xX6_restore_2, xX6_restore_3, xX6_restore_4, xX6_restore_7, xX6_restore_10, xX6_restore_12, xX6_restore_13, xX6_restore_14, xX6_restore_17, xX6_restore_18, xX6_restore_19, xX6_restore_22, xX6_restore_24, xX6_restore_25, xX6_restore_26, xX6_restore_29, xX6_restore_31, xX6_restore_32, xX6_restore_33, xX6_restore_34, xX6_restore_37, xX6_restore_38, xX6_restore_41, xX6_restore_42, xX6_restore_43, xX6_restore_46, xX6_restore_47, Bool.false_eq_true, if_true, if_false, kl_i, kl_a, kl_s, kl_u, kl_l, okS_nil, okS_cons, cat_i, cat_a, cat_s, cat_l, Nat.reduceAdd, Nat.reduceLeDiff, Nat.reduceSub, Nat.sub_zero, Nat.sub_self, Nat.zero_add, Nat.le_refl, Nat.zero_le, List.length_cons, List.length_nil, true_and, and_true, true_or, or_true, eq_self, forall_const, true_implies, not_true_eq_false, not_false_eq_true, false_implies, implies_true, false_and, and_false, false_or, or_false, i10, M0, R12, A207, L207, hcv, hiv, g2]
      exact ⟨g3.symm, h⟩
  refine kX5_restore ?_
  simp only [xX5_restore_0, xX5_restore_1, xX5_restore_4, xX5_restore_5, xX5_restore_6, xX5_restore_9, xX5_restore_11, xX5_restore_12, xX5_restore_13, xX5_restore_16, xX5_restore_17, xX5_restore_18, xX5_restore_21, xX5_restore_24, xX5_restore_26, xX5_restore_27, xX5_restore_28, xX5_restore_31, xX5_restore_32, xX5_restore_35, xX5_restore_36, xX5_restore_37, xX5_restore_40, xX5_restore_41, xX5_restore_44, xX5_restore_47, xX5_restore_48, Bool.false_eq_true, if_true, if_false, kl_i, kl_a, kl_s, kl_u, kl_l, okS_nil, okS_cons, cat_i, cat_a, cat_s, cat_l, Nat.reduceAdd, Nat.reduceLeDiff, Nat.reduceSub, Nat.sub_zero, Nat.sub_self, Nat.zero_add, Nat.le_refl, Nat.zero_le, List.length_cons, List.length_nil, true_and, and_true, true_or, or_true, eq_self, forall_const, true_implies, not_true_eq_false, not_false_eq_true, false_implies, implies_true, false_and, and_false, false_or, or_false, H0, F0, F1, F2, F3, F4, F5, F6, F7, P33.1, P39.1, P45.1, I1, I2]
  by_cases hx0 : x < 0
  · exact ⟨fun _ => modb _ (Or.inl ⟨fun g => g.1 hx0, rfl⟩), fun g => absurd hx0 g⟩
  refine ⟨fun g => absurd g hx0, fun _ => ?_⟩
  by_cases hx2 : ¬ x < 2
  · first
      | exact ⟨fun g => absurd g hx2, fun _ => modb _ (Or.inl ⟨fun g => hx2 g.2, rfl⟩)⟩
      | exact ⟨fun _ => modb _ (Or.inl ⟨fun g => hx2 g.2, rfl⟩), fun g => absurd g hx2⟩
  have hx2 := Decidable.not_not.mp hx2
  obtain ⟨k, hk, e⟩ := nat_of (N := 2) (by omega) hx0 hx2
  subst e
  have hcv := clN (v := k) (by omega)
  have hiv := inN (v := k) (n := 2) hk (by omega)
  obtain ⟨q1, q2⟩ := I3 k hk
  have hx : ¬ nI k < 0 ∧ nI k < 2 := ⟨hx0, hx2⟩
  obtain ⟨i1, i2, i3⟩ := h.2.2.2.2.2.1 k hk
  simp only [xX5_restore_0, xX5_restore_1, xX5_restore_4, xX5_restore_5, xX5_restore_6, xX5_restore_9, xX5_restore_11, xX5_restore_12, xX5_restore_13, xX5_restore_16, xX5_restore_17, xX5_restore_18, xX5_restore_21, xX5_restore_24, xX5_restore_26, xX5_restore_27, xX5_restore_28, xX5_restore_31, xX5_restore_32, xX5_restore_35, xX5_restore_36, xX5_restore_37, xX5_restore_40, xX5_restore_41, xX5_restore_44, xX5_restore_47, xX5_restore_48, hx2, Bool.false_eq_true, if_true, if_false, kl_i, kl_a, kl_s, kl_u, kl_l, okS_nil, okS_cons, cat_i, cat_a, cat_s, cat_l, Nat.reduceAdd, Nat.reduceLeDiff, Nat.reduceSub, Nat.sub_zero, Nat.sub_self, Nat.zero_add, Nat.le_refl, Nat.zero_le, List.length_cons, List.length_nil, true_and, and_true, true_or, or_true, eq_self, forall_const, true_implies, not_true_eq_false, not_false_eq_true, false_implies, implies_true, false_and, and_false, false_or, or_false, H0, F0, F1, F2, F3, F4, F5, F6, F7, P33.1, P39.1, P45.1, I1, I2, hcv, hiv, q1, q2.1]
  rw [i1]
  refine ⟨fun g0 => modb _ (Or.inr ⟨k, hk, rfl, g0, rfl⟩), fun g0 => ?_⟩
  have g1 : m 207 k = 1 := i2.resolve_left g0
  obtain ⟨g2, N', g7, gs⟩ := i3 g1
  refine t_take P33 q2 (by omega) (by rw [i1]; exact i2) ?_
  simp only [xX5_restore_0, xX5_restore_1, xX5_restore_4, xX5_restore_5, xX5_restore_6, xX5_restore_9, xX5_restore_11, xX5_restore_12, xX5_restore_13, xX5_restore_16, xX5_restore_17, xX5_restore_18, xX5_restore_21, xX5_restore_24, xX5_restore_26, xX5_restore_27, xX5_restore_28, xX5_restore_31, xX5_restore_32, xX5_restore_35, xX5_restore_36, xX5_restore_37, xX5_restore_40, xX5_restore_41, xX5_restore_44, xX5_restore_47, xX5_restore_48, Bool.false_eq_true, if_true, if_false, kl_i, kl_a, kl_s, kl_u, kl_l, okS_nil, okS_cons, cat_i, cat_a, cat_s, cat_l, Nat.reduceAdd, Nat.reduceLeDiff, Nat.reduceSub, Nat.sub_zero, Nat.sub_self, Nat.zero_add, Nat.le_refl, Nat.zero_le, List.length_cons, List.length_nil, true_and, and_true, true_or, or_true, eq_self, forall_const, true_implies, not_true_eq_false, not_false_eq_true, false_implies, implies_true, false_and, and_false, false_or, or_false, H0, F0, F1, F2, F3, F4, F5, F6, F7, P33.1, P39.1, P45.1, I1, I2, hA51.1]
  refine t_forgetAll hA51 ?_
  simp only [xX5_restore_0, xX5_restore_1, xX5_restore_4, xX5_restore_5, xX5_restore_6, xX5_restore_9, xX5_restore_11, xX5_restore_12, xX5_restore_13, xX5_restore_16, xX5_restore_17, xX5_restore_18, xX5_restore_21, xX5_restore_24, xX5_restore_26, xX5_restore_27, xX5_restore_28, xX5_restore_31, xX5_restore_32, xX5_restore_35, xX5_restore_36, xX5_restore_37, xX5_restore_40, xX5_restore_41, xX5_restore_44, xX5_restore_47, xX5_restore_48, Bool.false_eq_true, if_true, if_false, kl_i, kl_a, kl_s, kl_u, kl_l, okS_nil, okS_cons, cat_i, cat_a, cat_s, cat_l, Nat.reduceAdd, Nat.reduceLeDiff, Nat.reduceSub, Nat.sub_zero, Nat.sub_self, Nat.zero_add, Nat.le_refl, Nat.zero_le, List.length_cons, List.length_nil, true_and, and_true, true_or, or_true, eq_self, forall_const, true_implies, not_true_eq_false, not_false_eq_true, false_implies, implies_true, false_and, and_false, false_or, or_false, H0, F0, F1, F2, F3, F4, F5, F6, F7, P33.1, P39.1, P45.1]
  have eb : ∀ o, o ≠ 51 → ¬ (33 ≤ o ∧ o < 39) → upM (putP m 33 (takeQ (getP m 33) (getP m (19 + 6 * k)))) 51 2 0 o = m o := fun o o1 o2 => by rw [upM_n _ _ _ o1, putP_o _ _ (by omega)]
  refine kX6_restore ?_
  simp only [xX6_restore_0, xX6_restore_1, xX6_restore_2, xX6_restore_3, xX6_restore_4, xX6_restore_7, xX6_restore_10, xX6_restore_12, xX6_restore_13, xX6_restore_14, xX6_restore_17, xX6_restore_18, xX6_restore_19, xX6_restore_22, xX6_restore_24, xX6_restore_25, xX6_restore_26, xX6_restore_29, xX6_restore_31, xX6_restore_32, xX6_restore_33, xX6_restore_34, xX6_restore_37, xX6_restore_38, xX6_restore_41, xX6_restore_42, xX6_restore_43, xX6_restore_46, xX6_restore_47, Bool.false_eq_true, if_true, if_false, kl_i, kl_a, kl_s, kl_u, kl_l, okS_nil, okS_cons, cat_i, cat_a, cat_s, cat_l, Nat.reduceAdd, Nat.reduceLeDiff, Nat.reduceSub, Nat.sub_zero, Nat.sub_self, Nat.zero_add, Nat.le_refl, Nat.zero_le, List.length_cons, List.length_nil, true_and, and_true, true_or, or_true, eq_self, forall_const, true_implies, not_true_eq_false, not_false_eq_true, false_implies, implies_true, false_and, and_false, false_or, or_false]
  refine t_inI (a := 0) (b := 1) (by decide) (by decide) ?_
  simp only [k2]
  rw [if_pos hx]
  have ez : ((1 : Int32) = 0) = False := i10
  simp only [xX6_restore_0, xX6_restore_1, xX6_restore_2, xX6_restore_3, xX6_restore_4, xX6_restore_7, xX6_restore_10, xX6_restore_12, xX6_restore_13, xX6_restore_14, xX6_restore_17, xX6_restore_18, xX6_restore_19, xX6_restore_22, xX6_restore_24, xX6_restore_25, xX6_restore_26, xX6_restore_29, xX6_restore_31, xX6_restore_32, xX6_restore_33, xX6_restore_34, xX6_restore_37, xX6_restore_38, xX6_restore_41, xX6_restore_42, xX6_restore_43, xX6_restore_46, xX6_restore_47, Bool.false_eq_true, if_true, if_false, kl_i, kl_a, kl_s, kl_u, kl_l, okS_nil, okS_cons, cat_i, cat_a, cat_s, cat_l, Nat.reduceAdd, Nat.reduceLeDiff, Nat.reduceSub, Nat.sub_zero, Nat.sub_self, Nat.zero_add, Nat.le_refl, Nat.zero_le, List.length_cons, List.length_nil, true_and, and_true, true_or, or_true, eq_self, forall_const, true_implies, not_true_eq_false, not_false_eq_true, false_implies, implies_true, false_and, and_false, false_or, or_false, i10, M0, R8, R11, R12, A207, L207, hcv, hiv, eb 207 (by decide) (by decide), g1, m40 k (by omega)]
  refine t_mCopies (i := 40 * k) (j := 0) A206 A204 L206 L204 (by omega) (by omega) (by omega) (by omega) (by decide) ?_
  simp only [xX6_restore_0, xX6_restore_1, xX6_restore_2, xX6_restore_3, xX6_restore_4, xX6_restore_7, xX6_restore_10, xX6_restore_12, xX6_restore_13, xX6_restore_14, xX6_restore_17, xX6_restore_18, xX6_restore_19, xX6_restore_22, xX6_restore_24, xX6_restore_25, xX6_restore_26, xX6_restore_29, xX6_restore_31, xX6_restore_32, xX6_restore_33, xX6_restore_34, xX6_restore_37, xX6_restore_38, xX6_restore_41, xX6_restore_42, xX6_restore_43, xX6_restore_46, xX6_restore_47, Bool.false_eq_true, if_true, if_false, kl_i, kl_a, kl_s, kl_u, kl_l, okS_nil, okS_cons, cat_i, cat_a, cat_s, cat_l, Nat.reduceAdd, Nat.reduceLeDiff, Nat.reduceSub, Nat.sub_zero, Nat.sub_self, Nat.zero_add, Nat.le_refl, Nat.zero_le, List.length_cons, List.length_nil, true_and, and_true, true_or, or_true, eq_self, forall_const, true_implies, not_true_eq_false, not_false_eq_true, false_implies, implies_true, false_and, and_false, false_or, or_false, M0, eb 206 (by decide) (by decide), eb 204 (by decide) (by decide)]
  have fin : ∀ m', m' = upM (setR (upM (putP m 33 (takeQ (getP m 33) (getP m (19 + 6 * k)))) 51 2 0) 204 (va_cpy (m 206) (m 204) (40 * k) 0 40)) 199 9 0 → RR m' := by
    intro m' em
    have eo : ∀ o, o ≠ 199 → o ≠ 204 → o ≠ 51 → ¬ (33 ≤ o ∧ o < 39) → m' o = m o := fun o o1 o2 o3 o4 => by
      rw [em, upM_n _ _ _ o1, setR_n _ _ o2, upM_n _ _ _ o3, putP_o _ _ (by omega)]
    have e199 : ∀ j, j ≠ 9 → m' 199 j = m 199 j := fun j hj => by
      rw [em, upM_s, upd_n _ _ hj, setR_n _ _ (by decide), upM_n _ _ _ (by decide), putP_o _ _ (by omega)]
    have eP : ∀ j, j < 6 → getP m' 33 j = takeQ (getP m 33) (getP m (19 + 6 * k)) j := fun j hj => by
      show m' (33 + j) = _
      rw [em, upM_n _ _ _ (by omega), setR_n _ _ (by omega), upM_n _ _ _ (by omega)]
      exact putP_at _ _ _ hj
    have e33 : m' 33 5 = 1 := by
      have e2 : m' 33 = takeQ (getP m 33) (getP m (19 + 6 * k)) 0 := eP 0 (by omega)
      rw [e2, take_0 _ _ (by omega) (by omega)]
      exact gs.2.2
    have e204 : ∀ j, j < 40 → m' 204 j = sgA (m 206) k j := fun j hj => by
      rw [em, upM_n _ _ _ (by decide), setR_s]
      unfold va_cpy sgA
      rw [if_pos (by omega)]
      congr 1
    have st := snap_x g7 eP e204 (snap_take g7 gs)
    refine RR_pl h (fun o ho => eo o (by omega) (by omega) (by omega) (by omega)) (fun j _ j9 => e199 j j9) ?_ ?_
    · refine ⟨N', X, 0, g7, st.1, st.2.1, ?_, fun g => ?_, hX, by omega, ?_, ?_, ?_, fun i hi => by omega⟩
      · rw [e33, e199 7 (by decide), ← ht, g2]
      · rw [e33] at g; exact absurd g (by decide)
      · rw [em, upM_n _ _ _ (by decide), setR_n _ _ (by decide), upM_s, upd_n _ _ (by decide), putP_o _ _ (by omega)]; exact a1
      · rw [em, upM_n _ _ _ (by decide), setR_n _ _ (by decide), upM_s, upd_s]; rfl
      · rw [em, upM_s, upd_s]; rfl
    · intro k' hk'
      obtain ⟨j1, j2, j3⟩ := h.2.2.2.2.2.1 k' hk'
      rw [eo (19 + 6 * k') (by omega) (by omega) (by omega) (by omega), eo 207 (by omega) (by omega) (by omega) (by omega), e33]
      refine ⟨j1, j2, fun g => ?_⟩
      obtain ⟨j4, N2, j5, j6⟩ := j3 g
      exact ⟨rfl, N2, j5, snap_x j5 (fun j hj => getP_x (fun o h1 h2 => eo o (by omega) (by omega) (by omega) (by omega)) hj) (fun j hj => by rw [eo 206 (by omega) (by omega) (by omega) (by omega)]) j6⟩
  first
    | exact fin _ rfl
    | exact ⟨rfl, fin _ rfl⟩
    | exact ⟨rfl, rfl, fin _ rfl⟩
theorem m40b : ∀ r : Nat, r < 25 → (40 : Int32) * nI r = nI (40 * r) := by decide +kernel
theorem p_undo {K : Cx} {σ : Sg} (hw : WF σ) : PAIR K σ YX5_undo YX6_undo [] := by
  intro m l h
  obtain ⟨wN, wR, wT, wA, wL, wM, wI⟩ := hw
  have hA51 := wA
  obtain ⟨H0, F0, F1, F2, F3, F4, F5, F6, F7, P33, P39, P45⟩ := wN
  obtain ⟨M0, R0, R1, R2, R4, R8, R10, R11, R12, R14, R20, R21, R22, A200, L200, A201, L201, A202, L202, A203, L203, A204, L204, A205, L205, A206, L206, A207, L207, A208, L208, A209, L209, A210, L210, A211, L211⟩ := wM
  obtain ⟨N, X, A, h7, hn, hb, ht, hz, hX, hA, a1, a2, a3, ha⟩ := h.2.2.2.2.1
  refine kX5_undo ?_
  simp only [xX5_undo_0, xX5_undo_1, xX5_undo_4, xX5_undo_7, xX5_undo_10, xX5_undo_12, xX5_undo_13, xX5_undo_14, xX5_undo_17, xX5_undo_18, xX5_undo_21, xX5_undo_24, xX5_undo_25, xX5_undo_28, xX5_undo_31, Bool.false_eq_true, if_true, if_false, kl_i, kl_a, kl_s, kl_u, kl_l, okS_nil, okS_cons, cat_i, cat_a, cat_s, cat_l, Nat.reduceAdd, Nat.reduceLeDiff, Nat.reduceSub, Nat.sub_zero, Nat.sub_self, Nat.zero_add, Nat.le_refl, Nat.zero_le, List.length_cons, List.length_nil, true_and, and_true, true_or, or_true, eq_self, forall_const, true_implies, not_true_eq_false, not_false_eq_true, false_implies, implies_true, false_and, and_false, false_or, or_false, H0, F0, F1, F2, F3, F4, F5, F6, F7, P33.1, P39.1, P45.1, hA51.1, a2]
  have cA : (nI A = 0) = (A = 0) := eqN (a := A) (b := 0) (by omega) (by omega)
  by_cases hA0 : A = 0
  · refine ⟨fun _ => ?_, fun g => absurd (cA.mpr hA0) g⟩
    refine kX6_undo ?_
    simp only [xX6_undo_0, xX6_undo_1, xX6_undo_4, xX6_undo_7, xX6_undo_9, xX6_undo_10, xX6_undo_11, xX6_undo_12, xX6_undo_15, xX6_undo_16, xX6_undo_17, xX6_undo_20, xX6_undo_21, xX6_undo_24, xX6_undo_26, xX6_undo_27, xX6_undo_30, xX6_undo_31, xX6_undo_32, xX6_undo_35, xX6_undo_36, xX6_undo_39, xX6_undo_40, xX6_undo_43, Bool.false_eq_true, if_true, if_false, kl_i, kl_a, kl_s, kl_u, kl_l, okS_nil, okS_cons, cat_i, cat_a, cat_s, cat_l, Nat.reduceAdd, Nat.reduceLeDiff, Nat.reduceSub, Nat.sub_zero, Nat.sub_self, Nat.zero_add, Nat.le_refl, Nat.zero_le, List.length_cons, List.length_nil, true_and, and_true, true_or, or_true, eq_self, forall_const, true_implies, not_true_eq_false, not_false_eq_true, false_implies, implies_true, false_and, and_false, false_or, or_false, M0, a3, cA]
    exact ⟨fun _ => h, fun g => absurd hA0 g⟩
  · refine ⟨fun g => absurd (cA.mp g) hA0, fun _ => ?_⟩
    have hY : slot X A (A - 1) < 24 := slot_lt _ _ _
    have eY : (if slot X A (A - 1) + 1 < 24 then slot X A (A - 1) + 1 else 0) = X := by
      unfold slot; split <;> omega
    have es := ha (A - 1) (by omega)
    refine t_bringBack (X := slot X A (A - 1)) (A := A - 1) hA51 P33 (by omega) (by rw [eY]; exact a1) hY (by rw [a2]; congr 1; omega) (by omega) (Or.inr es.2.2) ?_
    have eb2 : backQ m 33 (slot X A (A - 1)) (A - 1) 51 2 = nI (A - 1) := by
      unfold backQ
      rw [putP_o _ _ (by omega), upM_s, upd_s]
    simp only [xX5_undo_0, xX5_undo_1, xX5_undo_4, xX5_undo_7, xX5_undo_10, xX5_undo_12, xX5_undo_13, xX5_undo_14, xX5_undo_17, xX5_undo_18, xX5_undo_21, xX5_undo_24, xX5_undo_25, xX5_undo_28, xX5_undo_31, Bool.false_eq_true, if_true, if_false, kl_i, kl_a, kl_s, kl_u, kl_l, okS_nil, okS_cons, cat_i, cat_a, cat_s, cat_l, Nat.reduceAdd, Nat.reduceLeDiff, Nat.reduceSub, Nat.sub_zero, Nat.sub_self, Nat.zero_add, Nat.le_refl, Nat.zero_le, List.length_cons, List.length_nil, true_and, and_true, true_or, or_true, eq_self, forall_const, true_implies, not_true_eq_false, not_false_eq_true, false_implies, implies_true, false_and, and_false, false_or, or_false, H0, F0, F1, F2, F3, F4, F5, F6, F7, P33.1, P39.1, P45.1, hA51.1, eb2]
    have ebo : ∀ o, o ≠ 51 → ¬ (33 ≤ o ∧ o < 39) → backQ m 33 (slot X A (A - 1)) (A - 1) o = m o := fun o o1 o2 => by
      unfold backQ
      rw [putP_o _ _ (by omega), upM_n _ _ _ o1, upM_n _ _ _ o1]
    have em1 : nI A - 1 = nI (A - 1) := by
      have := nI_pred (A - 1)
      rw [show A - 1 + 1 = A by omega] at this
      exact this
    refine kX6_undo ?_
    simp only [xX6_undo_0, xX6_undo_1, xX6_undo_4, xX6_undo_7, xX6_undo_9, xX6_undo_10, xX6_undo_11, xX6_undo_12, xX6_undo_15, xX6_undo_16, xX6_undo_17, xX6_undo_20, xX6_undo_21, xX6_undo_24, xX6_undo_26, xX6_undo_27, xX6_undo_30, xX6_undo_31, xX6_undo_32, xX6_undo_35, xX6_undo_36, xX6_undo_39, xX6_undo_40, xX6_undo_43, Bool.false_eq_true, if_true, if_false, kl_i, kl_a, kl_s, kl_u, kl_l, okS_nil, okS_cons, cat_i, cat_a, cat_s, cat_l, Nat.reduceAdd, Nat.reduceLeDiff, Nat.reduceSub, Nat.sub_zero, Nat.sub_self, Nat.zero_add, Nat.le_refl, Nat.zero_le, List.length_cons, List.length_nil, true_and, and_true, true_or, or_true, eq_self, forall_const, true_implies, not_true_eq_false, not_false_eq_true, false_implies, implies_true, false_and, and_false, false_or, or_false, M0, R8, R10, ebo 199 (by decide) (by decide), a3, cA, em1, upM_s, upd_s, m40b (A - 1) (by omega)]
    refine ⟨fun g => absurd g hA0, fun _ => ?_⟩
    refine t_mCopies (i := 40 * (A - 1)) (j := 0) A205 A204 L205 L204 (by omega) (by omega) (by omega) (by omega) (by decide) ?_
    have u205 : ∀ y, upM (backQ m 33 (slot X A (A - 1)) (A - 1)) 199 9 y 205 = m 205 := fun y => by rw [upM_n _ _ _ (by decide), ebo 205 (by decide) (by decide)]
    have u204 : ∀ y, upM (backQ m 33 (slot X A (A - 1)) (A - 1)) 199 9 y 204 = m 204 := fun y => by rw [upM_n _ _ _ (by decide), ebo 204 (by decide) (by decide)]
    have fin : ∀ m', m' = setR (upM (backQ m 33 (slot X A (A - 1)) (A - 1)) 199 9 (nI (A - 1))) 204 (va_cpy (m 205) (m 204) (40 * (A - 1)) 0 40) → RR m' := by
      intro m' em
      have eo : ∀ o, o ≠ 199 → o ≠ 204 → o ≠ 51 → ¬ (33 ≤ o ∧ o < 39) → m' o = m o := fun o o1 o2 o3 o4 => by
        rw [em, setR_n _ _ o2, upM_n _ _ _ o1, ebo o o3 o4]
      have e199 : ∀ j, j ≠ 9 → m' 199 j = m 199 j := fun j hj => by
        rw [em, setR_n _ _ (by decide), upM_s, upd_n _ _ hj, ebo 199 (by decide) (by decide)]
      have eP : ∀ j, j < 6 → getP m' 33 j = takeQ (getP m 33) (getP m (53 + 6 * slot X A (A - 1))) j := fun j hj => by
        show m' (33 + j) = _
        rw [em, setR_n _ _ (by omega), upM_n _ _ _ (by omega)]
        exact putP_at _ _ _ hj
      have e33 : m' 33 5 = 1 := by
        have e2 : m' 33 = takeQ (getP m 33) (getP m (53 + 6 * slot X A (A - 1))) 0 := eP 0 (by omega)
        rw [e2, take_0 _ _ (by omega) (by omega)]
        exact es.2.2
      have e204 : ∀ j, j < 40 → m' 204 j = sgA (m 205) (A - 1) j := fun j hj => by
        rw [em, setR_s]
        unfold va_cpy sgA
        rw [if_pos (by omega)]
        congr 1
      have st := snap_x h7 eP e204 (snap_take h7 es)
      have g1 : m 33 5 = 1 := by
        rcases hn.2.2 with g | g
        · exact absurd (hz g).2 hA0
        · exact g
      have sl : ∀ i, i < A - 1 → slot (slot X A (A - 1)) (A - 1) i = slot X A i := fun i hi => by unfold slot; omega
      refine RR_pl h (fun o ho => eo o (by omega) (by omega) (by omega) (by omega)) (fun j _ j9 => e199 j j9) ?_ ?_
      · refine ⟨N, slot X A (A - 1), A - 1, h7, st.1, st.2.1, ?_, fun g => ?_, hY, by omega, ?_, ?_, ?_, fun i hi => ?_⟩
        · rw [e33, e199 7 (by decide), ← ht, g1]
        · rw [e33] at g; exact absurd g (by decide)
        · rw [em, setR_n _ _ (by decide), upM_n _ _ _ (by decide)]
          unfold backQ
          rw [putP_o _ _ (by omega), upM_s, upd_n _ _ (by decide), upM_s, upd_s]
        · rw [em, setR_n _ _ (by decide), upM_n _ _ _ (by decide)]; exact eb2
        · rw [em, setR_n _ _ (by decide), upM_s, upd_s]
        · rw [sl i hi]
          have hs := slot_lt X A i
          exact snap_x h7 (fun j hj => getP_x (fun o h1 h2 => eo o (by omega) (by omega) (by omega) (by omega)) hj) (fun j hj => by rw [eo 205 (by omega) (by omega) (by omega) (by omega)]) (ha i (by omega))
      · intro k' hk'
        obtain ⟨j1, j2, j3⟩ := h.2.2.2.2.2.1 k' hk'
        rw [eo (19 + 6 * k') (by omega) (by omega) (by omega) (by omega), eo 207 (by omega) (by omega) (by omega) (by omega), e33]
        refine ⟨j1, j2, fun g => ?_⟩
        obtain ⟨j4, N2, j5, j6⟩ := j3 g
        exact ⟨rfl, N2, j5, snap_x j5 (fun j hj => getP_x (fun o h1 h2 => eo o (by omega) (by omega) (by omega) (by omega)) hj) (fun j hj => by rw [eo 206 (by omega) (by omega) (by omega) (by omega)]) j6⟩
    rw [u205, u204]
    have e9 : setR (upM (backQ m 33 (slot X A (A - 1)) (A - 1)) 199 9 (nI (A - 1))) 204 (va_cpy (m 205) (m 204) (40 * (A - 1)) 0 40) 199 9 = nI (A - 1) := by
      rw [setR_n _ _ (by decide), upM_s, upd_s]
    first
      | (simp only [xX6_undo_0, xX6_undo_1, xX6_undo_4, xX6_undo_7, xX6_undo_9, xX6_undo_10, xX6_undo_11, xX6_undo_12, xX6_undo_15, xX6_undo_16, xX6_undo_17, xX6_undo_20, xX6_undo_21, xX6_undo_24, xX6_undo_26, xX6_undo_27, xX6_undo_30, xX6_undo_31, xX6_undo_32, xX6_undo_35, xX6_undo_36, xX6_undo_39, xX6_undo_40, xX6_undo_43, Bool.false_eq_true, if_true, if_false, kl_i, kl_a, kl_s, kl_u, kl_l, okS_nil, okS_cons, cat_i, cat_a, cat_s, cat_l, Nat.reduceAdd, Nat.reduceLeDiff, Nat.reduceSub, Nat.sub_zero, Nat.sub_self, Nat.zero_add, Nat.le_refl, Nat.zero_le, List.length_cons, List.length_nil, true_and, and_true, true_or, or_true, eq_self, forall_const, true_implies, not_true_eq_false, not_false_eq_true, false_implies, implies_true, false_and, and_false, false_or, or_false, M0, e9]; exact fin _ rfl)
      | (simp only [xX6_undo_0, xX6_undo_1, xX6_undo_4, xX6_undo_7, xX6_undo_9, xX6_undo_10, xX6_undo_11, xX6_undo_12, xX6_undo_15, xX6_undo_16, xX6_undo_17, xX6_undo_20, xX6_undo_21, xX6_undo_24, xX6_undo_26, xX6_undo_27, xX6_undo_30, xX6_undo_31, xX6_undo_32, xX6_undo_35, xX6_undo_36, xX6_undo_39, xX6_undo_40, xX6_undo_43, Bool.false_eq_true, if_true, if_false, kl_i, kl_a, kl_s, kl_u, kl_l, okS_nil, okS_cons, cat_i, cat_a, cat_s, cat_l, Nat.reduceAdd, Nat.reduceLeDiff, Nat.reduceSub, Nat.sub_zero, Nat.sub_self, Nat.zero_add, Nat.le_refl, Nat.zero_le, List.length_cons, List.length_nil, true_and, and_true, true_or, or_true, eq_self, forall_const, true_implies, not_true_eq_false, not_false_eq_true, false_implies, implies_true, false_and, and_false, false_or, or_false, M0, e9]; exact ⟨rfl, fin _ rfl⟩)
      | exact ⟨rfl, e9, fin _ rfl⟩
