/-! calls on rows: row -/
def zq (f : Nat → Int32) (r v : Nat) : Nat → Int32 := fun j => if 40 * r ≤ j ∧ j < 40 * r + v then 0 else f j
theorem l_rz {K : Cx} {d : Nat} {σ : Sg} {m : Mm} {l : Ml} {r : Nat} {y z : Int32} {f : Nat → Int32} {Q : Rt} (hm : wfM σ) (hr : r < 8) : ∀ (k v : Nat), v + k = 40 → (∀ e4, WX (tX6_row K d) Q (81, [.ref 199, .int (nI r), .int y, .int z, e4], [], (0, 0), σ, setR m 202 (zq f r 40), l)) → WX (tX6_row K d) Q (55, [.ref 199, .int (nI r), .int y, .int z, .int (nI v)], [], (0, 0), σ, setR m 202 (zq f r v), l) := by
  obtain ⟨M0, R0, R1, R2, R4, R8, R10, R11, R12, R14, R20, R21, R22, A200, L200, A201, L201, A202, L202, A203, L203, A204, L204, A205, L205, A206, L206, A207, L207, A208, L208, A209, L209, A210, L210, A211, L211⟩ := hm
  intro k
  induction k with
  | zero =>
    intro v hv hQ
    have e : v = 40 := by omega
    subst e
    have c1 : (nI 40 < 40) = False := eq_false (by decide)
    rw [xX6_row_55]
    simp only [xX6_row_57, xX6_row_59, Bool.false_eq_true, if_true, if_false, kl_i, kl_a, kl_s, kl_u, kl_l, okS_nil, okS_cons, cat_i, cat_a, cat_s, cat_l, Nat.reduceAdd, Nat.reduceLeDiff, Nat.reduceSub, Nat.sub_zero, Nat.sub_self, Nat.zero_add, Nat.le_refl, Nat.zero_le, List.length_cons, List.length_nil, true_and, and_true, true_or, or_true, eq_self, forall_const, true_implies, not_true_eq_false, not_false_eq_true, false_implies, implies_true, false_and, and_false, false_or, or_false, c1]
    exact hQ _
  | succ k ih =>
    intro v hv hQ
    have c1 : (nI v < 40) = True := (ltN (a := v) (b := 40) (by omega) (by omega)).trans (eq_true (by omega))
    have hcv := clN (v := 40 * r + v) (by omega)
    have hiv := inN (v := 40 * r + v) (n := 320) (by omega) (by omega)
    rw [xX6_row_55]
    simp only [xX6_row_57, xX6_row_59, xX6_row_62, xX6_row_63, xX6_row_66, xX6_row_68, xX6_row_69, xX6_row_70, xX6_row_72, xX6_row_73, xX6_row_74, xX6_row_75, xX6_row_78, Bool.false_eq_true, if_true, if_false, kl_i, kl_a, kl_s, kl_u, kl_l, okS_nil, okS_cons, cat_i, cat_a, cat_s, cat_l, Nat.reduceAdd, Nat.reduceLeDiff, Nat.reduceSub, Nat.sub_zero, Nat.sub_self, Nat.zero_add, Nat.le_refl, Nat.zero_le, List.length_cons, List.length_nil, true_and, and_true, true_or, or_true, eq_self, forall_const, true_implies, not_true_eq_false, not_false_eq_true, false_implies, implies_true, false_and, and_false, false_or, or_false, c1, M0, R2, A202, L202, m40 r hr, nIk, hcv, hiv, upM_setR, setR_s, setR_setR, nI1]
    have e : upd (zq f r v) (40 * r + v) 0 = zq f r (v + 1) := by
      funext j
      unfold upd zq
      by_cases h : j = 40 * r + v
      · rw [if_pos h, if_pos (by omega)]
      · rw [if_neg h]
        by_cases h2 : 40 * r ≤ j ∧ j < 40 * r + v
        · rw [if_pos h2, if_pos (by omega)]
        · rw [if_neg h2, if_neg (by omega)]
    rw [e]
    exact ih (v + 1) (by omega) hQ
theorem p_row {K : Cx} {σ : Sg} (hw : WF σ) (x y z : Int32) : PAIR K σ YX5_row YX6_row [.int x, .int y, .int z] := by
  intro m l h
  obtain ⟨wN, wR, wT, wA, wL, wM, wI⟩ := hw
  have hM := wM
  obtain ⟨H0, F0, F1, F2, F3, F4, F5, F6, F7, P33, P39, P45⟩ := wN
  obtain ⟨M0, R0, R1, R2, R4, R8, R10, R11, R12, R14, R20, R21, R22, A200, L200, A201, L201, A202, L202, A203, L203, A204, L204, A205, L205, A206, L206, A207, L207, A208, L208, A209, L209, A210, L210, A211, L211⟩ := wM
  obtain ⟨W1, W2, W3⟩ := wR
  have modb : (¬ (¬ x < 0 ∧ x < 8) ∨ ¬ (¬ y < 0 ∧ ¬ 2 < y) ∨ 40 < z) → CT K 12 YX6_row [.ref 199, .int x, .int y, .int z] σ m l (fun r' σ2 m2 l2 => σ2 = σ ∧ r' = -1000001 ∧ RR m2) := by
    intro hb
    refine kX6_row ?_
    simp only [xX6_row_0, xX6_row_1, xX6_row_4, xX6_row_7, xX6_row_8, xX6_row_9, xX6_row_10, xX6_row_13, xX6_row_16, xX6_row_19, xX6_row_20, xX6_row_22, xX6_row_25, xX6_row_27, xX6_row_28, xX6_row_29, xX6_row_32, xX6_row_33, xX6_row_34, xX6_row_37, xX6_row_38, xX6_row_39, xX6_row_42, xX6_row_43, xX6_row_44, xX6_row_45, xX6_row_46, xX6_row_49, xX6_row_50, xX6_row_51, xX6_row_52, xX6_row_53, Bool.false_eq_true, if_true, if_false, kl_i, kl_a, kl_s, kl_u, kl_l, okS_nil, okS_cons, cat_i, cat_a, cat_s, cat_l, Nat.reduceAdd, Nat.reduceLeDiff, Nat.reduceSub, Nat.sub_zero, Nat.sub_self, Nat.zero_add, Nat.le_refl, Nat.zero_le, List.length_cons, List.length_nil, true_and, and_true, true_or, or_true, eq_self, forall_const, true_implies, not_true_eq_false, not_false_eq_true, false_implies, implies_true, false_and, and_false, false_or, or_false]
    refine t_mIsRow ?_
    by_cases hx : ¬ x < 0 ∧ x < 8
    · have hb := hb.resolve_left (fun g => g hx)
      rw [if_pos hx]
      simp only [xX6_row_0, xX6_row_1, xX6_row_4, xX6_row_7, xX6_row_8, xX6_row_9, xX6_row_10, xX6_row_13, xX6_row_16, xX6_row_19, xX6_row_20, xX6_row_22, xX6_row_25, xX6_row_27, xX6_row_28, xX6_row_29, xX6_row_32, xX6_row_33, xX6_row_34, xX6_row_37, xX6_row_38, xX6_row_39, xX6_row_42, xX6_row_43, xX6_row_44, xX6_row_45, xX6_row_46, xX6_row_49, xX6_row_50, xX6_row_51, xX6_row_52, xX6_row_53, Bool.false_eq_true, if_true, if_false, kl_i, kl_a, kl_s, kl_u, kl_l, okS_nil, okS_cons, cat_i, cat_a, cat_s, cat_l, Nat.reduceAdd, Nat.reduceLeDiff, Nat.reduceSub, Nat.sub_zero, Nat.sub_self, Nat.zero_add, Nat.le_refl, Nat.zero_le, List.length_cons, List.length_nil, true_and, and_true, true_or, or_true, eq_self, forall_const, true_implies, not_true_eq_false, not_false_eq_true, false_implies, implies_true, false_and, and_false, false_or, or_false, i10]
      refine t_inI (a := 0) (b := 2) (by decide) (by decide) ?_
      by_cases hy : ¬ y < 0 ∧ ¬ 2 < y
      · have hb := hb.resolve_left (fun g => g hy)
        rw [if_pos hy]
        simp only [xX6_row_0, xX6_row_1, xX6_row_4, xX6_row_7, xX6_row_8, xX6_row_9, xX6_row_10, xX6_row_13, xX6_row_16, xX6_row_19, xX6_row_20, xX6_row_22, xX6_row_25, xX6_row_27, xX6_row_28, xX6_row_29, xX6_row_32, xX6_row_33, xX6_row_34, xX6_row_37, xX6_row_38, xX6_row_39, xX6_row_42, xX6_row_43, xX6_row_44, xX6_row_45, xX6_row_46, xX6_row_49, xX6_row_50, xX6_row_51, xX6_row_52, xX6_row_53, Bool.false_eq_true, if_true, if_false, kl_i, kl_a, kl_s, kl_u, kl_l, okS_nil, okS_cons, cat_i, cat_a, cat_s, cat_l, Nat.reduceAdd, Nat.reduceLeDiff, Nat.reduceSub, Nat.sub_zero, Nat.sub_self, Nat.zero_add, Nat.le_refl, Nat.zero_le, List.length_cons, List.length_nil, true_and, and_true, true_or, or_true, eq_self, forall_const, true_implies, not_true_eq_false, not_false_eq_true, false_implies, implies_true, false_and, and_false, false_or, or_false, i10]
        exact ⟨fun _ => h, fun g => absurd hb g⟩
      · rw [if_neg hy]
        simp only [xX6_row_0, xX6_row_1, xX6_row_4, xX6_row_7, xX6_row_8, xX6_row_9, xX6_row_10, xX6_row_13, xX6_row_16, xX6_row_19, xX6_row_20, xX6_row_22, xX6_row_25, xX6_row_27, xX6_row_28, xX6_row_29, xX6_row_32, xX6_row_33, xX6_row_34, xX6_row_37, xX6_row_38, xX6_row_39, xX6_row_42, xX6_row_43, xX6_row_44, xX6_row_45, xX6_row_46, xX6_row_49, xX6_row_50, xX6_row_51, xX6_row_52, xX6_row_53, Bool.false_eq_true, if_true, if_false, kl_i, kl_a, kl_s, kl_u, kl_l, okS_nil, okS_cons, cat_i, cat_a, cat_s, cat_l, Nat.reduceAdd, Nat.reduceLeDiff, Nat.reduceSub, Nat.sub_zero, Nat.sub_self, Nat.zero_add, Nat.le_refl, Nat.zero_le, List.length_cons, List.length_nil, true_and, and_true, true_or, or_true, eq_self, forall_const, true_implies, not_true_eq_false, not_false_eq_true, false_implies, implies_true, false_and, and_false, false_or, or_false]
        exact h
    · rw [if_neg hx]
      simp only [xX6_row_0, xX6_row_1, xX6_row_4, xX6_row_7, xX6_row_8, xX6_row_9, xX6_row_10, xX6_row_13, xX6_row_16, xX6_row_19, xX6_row_20, xX6_row_22, xX6_row_25, xX6_row_27, xX6_row_28, xX6_row_29, xX6_row_32, xX6_row_33, xX6_row_34, xX6_row_37, xX6_row_38, xX6_row_39, xX6_row_42, xX6_row_43, xX6_row_44, xX6_row_45, xX6_row_46, xX6_row_49, xX6_row_50, xX6_row_51, xX6_row_52, xX6_row_53, Bool.false_eq_true, if_true, if_false, kl_i, kl_a, kl_s, kl_u, kl_l, okS_nil, okS_cons, cat_i, cat_a, cat_s, cat_l, Nat.reduceAdd, Nat.reduceLeDiff, Nat.reduceSub, Nat.sub_zero, Nat.sub_self, Nat.zero_add, Nat.le_refl, Nat.zero_le, List.length_cons, List.length_nil, true_and, and_true, true_or, or_true, eq_self, forall_const, true_implies, not_true_eq_false, not_false_eq_true, false_implies, implies_true, false_and, and_false, false_or, or_false]
      exact h
  refine kX5_row ?_
  simp only [xX5_row_0, xX5_row_1, xX5_row_4, xX5_row_7, xX5_row_8, xX5_row_11, xX5_row_12, xX5_row_13, xX5_row_16, xX5_row_17, xX5_row_19, xX5_row_22, xX5_row_24, xX5_row_25, xX5_row_26, xX5_row_29, xX5_row_30, xX5_row_31, xX5_row_34, xX5_row_35, xX5_row_36, xX5_row_37, xX5_row_40, xX5_row_41, xX5_row_44, xX5_row_45, xX5_row_46, xX5_row_47, xX5_row_48, xX5_row_51, xX5_row_52, Bool.false_eq_true, if_true, if_false, kl_i, kl_a, kl_s, kl_u, kl_l, okS_nil, okS_cons, cat_i, cat_a, cat_s, cat_l, Nat.reduceAdd, Nat.reduceLeDiff, Nat.reduceSub, Nat.sub_zero, Nat.sub_self, Nat.zero_add, Nat.le_refl, Nat.zero_le, List.length_cons, List.length_nil, true_and, and_true, true_or, or_true, eq_self, forall_const, true_implies, not_true_eq_false, not_false_eq_true, false_implies, implies_true, false_and, and_false, false_or, or_false, H0, F0, F1, F2, F3, F4, F5, F6, F7, P33.1, P39.1, P45.1]
  refine t_isRow ?_
  by_cases hx : ¬ (¬ x < 0 ∧ x < 8)
  · rw [if_neg hx]
    simp only [xX5_row_0, xX5_row_1, xX5_row_4, xX5_row_7, xX5_row_8, xX5_row_11, xX5_row_12, xX5_row_13, xX5_row_16, xX5_row_17, xX5_row_19, xX5_row_22, xX5_row_24, xX5_row_25, xX5_row_26, xX5_row_29, xX5_row_30, xX5_row_31, xX5_row_34, xX5_row_35, xX5_row_36, xX5_row_37, xX5_row_40, xX5_row_41, xX5_row_44, xX5_row_45, xX5_row_46, xX5_row_47, xX5_row_48, xX5_row_51, xX5_row_52, Bool.false_eq_true, if_true, if_false, kl_i, kl_a, kl_s, kl_u, kl_l, okS_nil, okS_cons, cat_i, cat_a, cat_s, cat_l, Nat.reduceAdd, Nat.reduceLeDiff, Nat.reduceSub, Nat.sub_zero, Nat.sub_self, Nat.zero_add, Nat.le_refl, Nat.zero_le, List.length_cons, List.length_nil, true_and, and_true, true_or, or_true, eq_self, forall_const, true_implies, not_true_eq_false, not_false_eq_true, false_implies, implies_true, false_and, and_false, false_or, or_false, H0, F0, F1, F2, F3, F4, F5, F6, F7, P33.1, P39.1, P45.1]
    exact modb (Or.inl hx)
  have hx := Decidable.not_not.mp hx
  rw [if_pos hx]
  obtain ⟨r, hr, e⟩ := row_of hx
  subst e
  obtain ⟨q1, q2⟩ := W3 r hr
  have hcv := clN (v := r) (by omega)
  have hiv := inN (v := r) (n := 8) hr (by omega)
  simp only [xX5_row_0, xX5_row_1, xX5_row_4, xX5_row_7, xX5_row_8, xX5_row_11, xX5_row_12, xX5_row_13, xX5_row_16, xX5_row_17, xX5_row_19, xX5_row_22, xX5_row_24, xX5_row_25, xX5_row_26, xX5_row_29, xX5_row_30, xX5_row_31, xX5_row_34, xX5_row_35, xX5_row_36, xX5_row_37, xX5_row_40, xX5_row_41, xX5_row_44, xX5_row_45, xX5_row_46, xX5_row_47, xX5_row_48, xX5_row_51, xX5_row_52, Bool.false_eq_true, if_true, if_false, kl_i, kl_a, kl_s, kl_u, kl_l, okS_nil, okS_cons, cat_i, cat_a, cat_s, cat_l, Nat.reduceAdd, Nat.reduceLeDiff, Nat.reduceSub, Nat.sub_zero, Nat.sub_self, Nat.zero_add, Nat.le_refl, Nat.zero_le, List.length_cons, List.length_nil, true_and, and_true, true_or, or_true, eq_self, forall_const, true_implies, not_true_eq_false, not_false_eq_true, false_implies, implies_true, false_and, and_false, false_or, or_false, H0, F0, F1, F2, F3, F4, F5, F6, F7, P33.1, P39.1, P45.1, i10, W1, W2, hcv, hiv, q1, q2.1]
  by_cases hy0 : y < 0
  · exact ⟨fun _ => modb (Or.inr (Or.inl (fun g => g.1 hy0))), fun g => absurd hy0 g⟩
  refine ⟨fun g => absurd g hy0, fun _ => ?_⟩
  by_cases hy1 : 2 < y
  · exact ⟨fun _ => modb (Or.inr (Or.inl (fun g => g.2 hy1))), fun g => absurd hy1 g⟩
  refine ⟨fun g => absurd g hy1, fun _ => ?_⟩
  by_cases hz1 : 40 < z
  · first
      | exact ⟨fun _ => modb (Or.inr (Or.inr hz1)), fun g => absurd hz1 g⟩
      | exact ⟨fun g => absurd hz1 g, fun _ => modb (Or.inr (Or.inr hz1))⟩
  have pre : ∀ (m1 : Mm) (Q : Rt), (z < 0 → Q (-1000010 - 4) σ (upM m1 199 3 4) l) → (¬ z < 0 → Q z σ (upM (setR (upM (upM m1 200 r y) 201 r z) 202 (zq (m1 202) r 40)) 199 3 0) l) → CT K 12 YX6_row [.ref 199, .int (nI r), .int y, .int z] σ m1 l Q := by
    intro m1 Q g0 g1
    refine kX6_row ?_
    simp only [xX6_row_0, xX6_row_1, xX6_row_4, xX6_row_7, xX6_row_8, xX6_row_9, xX6_row_10, xX6_row_13, xX6_row_16, xX6_row_19, xX6_row_20, xX6_row_22, xX6_row_25, xX6_row_27, xX6_row_28, xX6_row_29, xX6_row_32, xX6_row_33, xX6_row_34, xX6_row_37, xX6_row_38, xX6_row_39, xX6_row_42, xX6_row_43, xX6_row_44, xX6_row_45, xX6_row_46, xX6_row_49, xX6_row_50, xX6_row_51, xX6_row_52, xX6_row_53, Bool.false_eq_true, if_true, if_false, kl_i, kl_a, kl_s, kl_u, kl_l, okS_nil, okS_cons, cat_i, cat_a, cat_s, cat_l, Nat.reduceAdd, Nat.reduceLeDiff, Nat.reduceSub, Nat.sub_zero, Nat.sub_self, Nat.zero_add, Nat.le_refl, Nat.zero_le, List.length_cons, List.length_nil, true_and, and_true, true_or, or_true, eq_self, forall_const, true_implies, not_true_eq_false, not_false_eq_true, false_implies, implies_true, false_and, and_false, false_or, or_false]
    refine t_mIsRow ?_
    rw [if_pos hx]
    simp only [xX6_row_0, xX6_row_1, xX6_row_4, xX6_row_7, xX6_row_8, xX6_row_9, xX6_row_10, xX6_row_13, xX6_row_16, xX6_row_19, xX6_row_20, xX6_row_22, xX6_row_25, xX6_row_27, xX6_row_28, xX6_row_29, xX6_row_32, xX6_row_33, xX6_row_34, xX6_row_37, xX6_row_38, xX6_row_39, xX6_row_42, xX6_row_43, xX6_row_44, xX6_row_45, xX6_row_46, xX6_row_49, xX6_row_50, xX6_row_51, xX6_row_52, xX6_row_53, Bool.false_eq_true, if_true, if_false, kl_i, kl_a, kl_s, kl_u, kl_l, okS_nil, okS_cons, cat_i, cat_a, cat_s, cat_l, Nat.reduceAdd, Nat.reduceLeDiff, Nat.reduceSub, Nat.sub_zero, Nat.sub_self, Nat.zero_add, Nat.le_refl, Nat.zero_le, List.length_cons, List.length_nil, true_and, and_true, true_or, or_true, eq_self, forall_const, true_implies, not_true_eq_false, not_false_eq_true, false_implies, implies_true, false_and, and_false, false_or, or_false, i10]
    refine t_inI (a := 0) (b := 2) (by decide) (by decide) ?_
    rw [if_pos ⟨hy0, hy1⟩]
    simp only [xX6_row_0, xX6_row_1, xX6_row_4, xX6_row_7, xX6_row_8, xX6_row_9, xX6_row_10, xX6_row_13, xX6_row_16, xX6_row_19, xX6_row_20, xX6_row_22, xX6_row_25, xX6_row_27, xX6_row_28, xX6_row_29, xX6_row_32, xX6_row_33, xX6_row_34, xX6_row_37, xX6_row_38, xX6_row_39, xX6_row_42, xX6_row_43, xX6_row_44, xX6_row_45, xX6_row_46, xX6_row_49, xX6_row_50, xX6_row_51, xX6_row_52, xX6_row_53, Bool.false_eq_true, if_true, if_false, kl_i, kl_a, kl_s, kl_u, kl_l, okS_nil, okS_cons, cat_i, cat_a, cat_s, cat_l, Nat.reduceAdd, Nat.reduceLeDiff, Nat.reduceSub, Nat.sub_zero, Nat.sub_self, Nat.zero_add, Nat.le_refl, Nat.zero_le, List.length_cons, List.length_nil, true_and, and_true, true_or, or_true, eq_self, forall_const, true_implies, not_true_eq_false, not_false_eq_true, false_implies, implies_true, false_and, and_false, false_or, or_false, i10, M0, R0, R1, A200, L200, A201, L201, hcv, hiv]
    refine ⟨fun g => absurd g hz1, fun _ => ?_⟩
    refine ⟨fun g => ?_, fun g => ?_⟩
    · refine t_mFound M0 ?_
      exact g0 g
    · have e202 : upM (upM m1 200 r y) 201 r z 202 = m1 202 := by rw [upM_n _ _ _ (by decide), upM_n _ _ _ (by decide)]
      have es : setR (upM (upM m1 200 r y) 201 r z) 202 (zq (m1 202) r 0) = upM (upM m1 200 r y) 201 r z := by
        have : zq (m1 202) r 0 = m1 202 := by funext j; exact if_neg (by omega)
        rw [this, ← e202, setR_id]
      rw [← es]
      refine l_rz hM hr 40 0 (by omega) (fun e4 => ?_)
      simp only [xX6_row_81, xX6_row_82, xX6_row_83, xX6_row_86, Bool.false_eq_true, if_true, if_false, kl_i, kl_a, kl_s, kl_u, kl_l, okS_nil, okS_cons, cat_i, cat_a, cat_s, cat_l, Nat.reduceAdd, Nat.reduceLeDiff, Nat.reduceSub, Nat.sub_zero, Nat.sub_self, Nat.zero_add, Nat.le_refl, Nat.zero_le, List.length_cons, List.length_nil, true_and, and_true, true_or, or_true, eq_self, forall_const, true_implies, not_true_eq_false, not_false_eq_true, false_implies, implies_true, false_and, and_false, false_or, or_false, M0]
      refine t_mWell M0 ?_
      exact g1 g
  refine ⟨fun g => absurd g hz1, fun _ => ?_⟩
  refine ⟨fun g => ?_, fun g => ?_⟩
  · refine t_found H0 ?_
    exact ⟨rfl, pre _ _ (fun _ => ⟨rfl, rfl, RR_st 4 h⟩) (fun g' => absurd g g')⟩
  · obtain ⟨n, n1, n2, e⟩ := rng (a := 0) (b := 40) (by omega) (by omega) ⟨g, hz1⟩
    refine t_make q2 ?_
    refine ⟨rfl, pre _ _ (fun g' => absurd g' g) (fun _ => ⟨rfl, rfl, ?_⟩)⟩
    have fin : ∀ m2, m2 = upM (setR (upM (upM (makeQ (upM m 0 9 0) (2 + 2 * r) y z) 200 r y) 201 r z) 202 (zq (makeQ (upM m 0 9 0) (2 + 2 * r) y z 202) r 40)) 199 3 0 → RR m2 := by
      intro m2 em
      have mk : ∀ o, o ≠ 2 + 2 * r → o ≠ 2 + 2 * r + 1 → makeQ (upM m 0 9 0) (2 + 2 * r) y z o = upM m 0 9 0 o := fun o o1 o2 => by
        unfold makeQ
        rw [setR_n _ _ o2, setR_n _ _ o1]
      have f0 : ∀ o, o ≠ 199 → o ≠ 202 → o ≠ 201 → o ≠ 200 → m2 o = makeQ (upM m 0 9 0) (2 + 2 * r) y z o := fun o o1 o2 o3 o4 => by rw [em, upM_n _ _ _ o1, setR_n _ _ o2, upM_n _ _ _ o3, upM_n _ _ _ o4]
      have f200 : m2 200 = upd (m 200) r y := by rw [em, upM_n _ _ _ (by decide), setR_n _ _ (by decide), upM_n _ _ _ (by decide), upM_s, mk 200 (by omega) (by omega), upM_n _ _ _ (by decide)]
      have f201 : m2 201 = upd (m 201) r z := by rw [em, upM_n _ _ _ (by decide), setR_n _ _ (by decide), upM_s, upM_n _ _ _ (by decide), mk 201 (by omega) (by omega), upM_n _ _ _ (by decide)]
      have f202 : m2 202 = zq (m 202) r 40 := by rw [em, upM_n _ _ _ (by decide), setR_s, mk 202 (by omega) (by omega), upM_n _ _ _ (by decide)]
      have f199 : m2 199 = upd (m 199) 3 0 := by rw [em, upM_s, setR_n _ _ (by decide), upM_n _ _ _ (by decide), upM_n _ _ _ (by decide), mk 199 (by omega) (by omega), upM_n _ _ _ (by decide)]
      refine RR_row h (fun o o1 o2 o3 o4 => ?_) ?_ (fun k hk => ?_) ?_ (fun r' hr' => ?_)
      · rw [f0 o o2 (by omega) (by omega) (by omega), mk o (by omega) (by omega), upM_n _ _ _ o1]
      · rw [f0 0 (by decide) (by decide) (by decide) (by decide), mk 0 (by omega) (by omega), upM_s, upd_n _ _ (by decide)]
      · rw [f199, upd_n _ _ hk]
      · rw [f0 0 (by decide) (by decide) (by decide) (by decide), mk 0 (by omega) (by omega), upM_s, upd_s, f199, upd_s]
      · unfold rwR
        rw [f200, f201, f202, f0 (2 + 2 * r') (by omega) (by omega) (by omega) (by omega), f0 (3 + 2 * r') (by omega) (by omega) (by omega) (by omega)]
        by_cases hrr : r' = r
        · subst hrr
          have e1 : makeQ (upM m 0 9 0) (2 + 2 * r') y z (2 + 2 * r') = upd (upd (upd (m (2 + 2 * r')) 1 1) 2 y) 3 z := by
            unfold makeQ
            rw [setR_n _ _ (by omega), setR_s, upM_n _ _ _ (by omega)]
          have e2 : ∀ k, k < 40 → makeQ (upM m 0 9 0) (2 + 2 * r') y z (3 + 2 * r') k = 0 := fun k hk => by
            rw [show 3 + 2 * r' = 2 + 2 * r' + 1 by omega]
            unfold makeQ
            rw [setR_s, if_pos hk]
          rw [e1, upd_s, upd_s]
          refine Or.inr ⟨rfl, n, n2, e, e, by rw [upd_n _ _ (by decide), upd_s, upd_s], fun k hk => ?_⟩
          rw [e2 k hk]
          unfold zq
          rw [if_pos (by omega)]
        · rw [mk (2 + 2 * r') (by omega) (by omega), mk (3 + 2 * r') (by omega) (by omega), upM_n _ _ _ (by omega), upM_n _ _ _ (by omega), upd_n _ _ hrr, upd_n _ _ hrr]
          rcases h.1 r' hr' with g' | ⟨s1, n', s2, s3, s4, s5, s6⟩
          · exact Or.inl g'
          · refine Or.inr ⟨s1, n', s2, s3, s4, s5, fun k hk => ?_⟩
            rw [s6 k hk]
            unfold zq
            rw [if_neg (by omega)]
    exact fin _ rfl
