/-! calls: guard -/
theorem RR_guard {m m' : Mm} {N X A : Nat} {y : Int32} (h : RR m) (h7 : N ≤ 7) (hX : X < 24) (hA : A ≤ 24) (hn : nowH N m (m 204)) (hb : BD N (m 204)) (ht : m 33 5 = m 199 7) (a1 : m 51 1 = nI X) (a2 : m 51 2 = nI A) (ha : cAc N X A m) (g1 : m 33 5 = 1)
    (em : m' = upM (remQ (upM (keepQ m 33 X) 33 10 y) A) 204 4 y) : RR m' := by
  have e33 : m' 33 = upd (m 33) 10 y := by rw [em, upM_n _ _ _ (by decide), remQ_at (by decide) (by decide), upM_s, keepQ_at (by decide) (by omega)]
  have e204 : m' 204 = upd (m 204) 4 y := by rw [em, upM_s, remQ_at (by decide) (by decide), upM_n _ _ _ (by decide), keepQ_at (by decide) (by omega)]
  have eP : ∀ j, j < 6 → getP m' 33 j = setR (getP m 33) 0 (upd (getP m 33 0) 10 y) j := fun j hj => by
    by_cases g : j = 0
    · subst g
      exact e33
    · rw [setR_n _ _ g]
      show m' (33 + j) = m (33 + j)
      rw [em, upM_n _ _ _ (by omega), remQ_at (by omega) (by omega), upM_n _ _ _ (by omega), keepQ_at (by omega) (by omega)]
  refine RR_act h h7 hX hA hn hb ht a1 a2 ha g1 ⟨?_, ?_⟩ (fun j hj => ?_) (fun o o1 o2 o3 o4 o5 o6 => ?_) ?_ ?_ ?_ ?_ ?_
  · rw [em, upM_n _ _ _ (by decide), remQ_at (by decide) (by decide), upM_n _ _ _ (by decide)]
    unfold keepQ nxX
    rw [upM_s, upd_n _ _ (by decide), upM_s, upd_s]
  · rw [em, upM_n _ _ _ (by decide), remQ_at (by decide) (by decide), upM_n _ _ _ (by decide)]
    unfold keepQ
    rw [upM_s, upd_s, a2]
    exact mn24 hA
  · rw [em, upM_n _ _ _ (by omega), remQ_at (by omega) (by omega), upM_n _ _ _ (by omega)]
    unfold keepQ
    rw [upM_n _ _ _ (by omega), upM_n _ _ _ (by omega)]
    exact putP_at _ _ _ hj
  · rw [em, upM_n _ _ _ o2, remQ_at o1 o3, upM_n _ _ _ (by omega), keepQ_at o4 o6]
  · rw [em, upM_n _ _ _ (by decide), remQ_199, upM_n _ _ _ (by decide), keepQ_at (by decide) (by omega)]
  · rw [em, upM_n _ _ _ (by decide), remQ_205]
    unfold remB
    rw [upM_n _ _ _ (by decide), upM_n _ _ _ (by decide), keepQ_at (by decide) (by omega), keepQ_at (by decide) (by omega)]
  · rw [e33, upd_n _ _ (by decide)]; exact g1
  · rw [e204]
    exact triQ_x h7 eP (fun _ _ => rfl) (tri_4 y h7 hn)
  · rw [e204]
    obtain ⟨nt, rm, D, b1, b2, b3, b4, b5, b6, b7⟩ := hb
    refine ⟨nt, rm, D, by rw [upd_n _ _ (by decide)]; exact b1, b2, by rw [upd_n _ _ (by decide)]; exact b3, b4, by rw [upd_n _ _ (by decide)]; exact b5, b6, fun w hw => ?_⟩
    rw [upd_n _ _ (by omega), upd_n _ _ (by omega), upd_n _ _ (by omega), upd_n _ _ (by omega)]
    exact b7 w hw
theorem p_guard {K : Cx} {σ : Sg} (hw : WF σ) (x y : Int32) : PAIR K σ YX5_guard YX6_guard [.int x, .int y] := by
  intro m l h
  obtain ⟨wN, wR, wT, wA, wL, wM, wI⟩ := hw
  have hM := wM
  have hA51 := wA
  obtain ⟨H0, F0, F1, F2, F3, F4, F5, F6, F7, P33, P39, P45⟩ := wN
  obtain ⟨M0, R0, R1, R2, R4, R8, R10, R11, R12, R14, R20, R21, R22, A200, L200, A201, L201, A202, L202, A203, L203, A204, L204, A205, L205, A206, L206, A207, L207, A208, L208, A209, L209, A210, L210, A211, L211⟩ := wM
  obtain ⟨N, X, A, h7, hn, hb, ht, hz, hX, hA, a1, a2, a3, ha⟩ := h.2.2.2.2.1
  have h8 : m 33 8 = nI N := hn.2.1
  have h2 := now_2 hn
  have badm : (¬ (¬ x < 0 ∧ x < nI N) ∨ ¬ (¬ y < 0 ∧ ¬ 1 < y)) → CT K 12 YX6_guard [.ref 199, .int x, .int y] σ m l (fun r' σ2 m2 l2 => σ2 = σ ∧ r' = -1000001 ∧ RR m2) := by
    intro hb
    refine kX6_guard ?_
    simp only [xX6_guard_0, xX6_guard_1, xX6_guard_2, xX6_guard_5, xX6_guard_8, xX6_guard_9, xX6_guard_10, xX6_guard_11, xX6_guard_12, xX6_guard_15, xX6_guard_18, xX6_guard_20, xX6_guard_21, xX6_guard_22, xX6_guard_25, xX6_guard_26, xX6_guard_29, xX6_guard_30, xX6_guard_31, xX6_guard_32, xX6_guard_33, xX6_guard_34, xX6_guard_35, xX6_guard_36, xX6_guard_37, xX6_guard_40, xX6_guard_41, xX6_guard_42, xX6_guard_45, xX6_guard_46, xX6_guard_47, xX6_guard_48, xX6_guard_49, xX6_guard_50, xX6_guard_51, xX6_guard_52, xX6_guard_53, xX6_guard_54, xX6_guard_55, xX6_guard_56, xX6_guard_57, xX6_guard_58, xX6_guard_59, Bool.false_eq_true, if_true, if_false, kl_i, kl_a, kl_s, kl_u, kl_l, okS_nil, okS_cons, cat_i, cat_a, cat_s, cat_l, Nat.reduceAdd, Nat.reduceLeDiff, Nat.reduceSub, Nat.sub_zero, Nat.sub_self, Nat.zero_add, Nat.le_refl, Nat.zero_le, List.length_cons, List.length_nil, true_and, and_true, true_or, or_true, eq_self, forall_const, true_implies, not_true_eq_false, not_false_eq_true, false_implies, implies_true, false_and, and_false, false_or, or_false, M0]
    refine t_isVillage hM h2 h7 ?_
    by_cases hv : ¬ x < 0 ∧ x < nI N
    · rw [if_pos hv]
      simp only [xX6_guard_0, xX6_guard_1, xX6_guard_2, xX6_guard_5, xX6_guard_8, xX6_guard_9, xX6_guard_10, xX6_guard_11, xX6_guard_12, xX6_guard_15, xX6_guard_18, xX6_guard_20, xX6_guard_21, xX6_guard_22, xX6_guard_25, xX6_guard_26, xX6_guard_29, xX6_guard_30, xX6_guard_31, xX6_guard_32, xX6_guard_33, xX6_guard_34, xX6_guard_35, xX6_guard_36, xX6_guard_37, xX6_guard_40, xX6_guard_41, xX6_guard_42, xX6_guard_45, xX6_guard_46, xX6_guard_47, xX6_guard_48, xX6_guard_49, xX6_guard_50, xX6_guard_51, xX6_guard_52, xX6_guard_53, xX6_guard_54, xX6_guard_55, xX6_guard_56, xX6_guard_57, xX6_guard_58, xX6_guard_59, Bool.false_eq_true, if_true, if_false, kl_i, kl_a, kl_s, kl_u, kl_l, okS_nil, okS_cons, cat_i, cat_a, cat_s, cat_l, Nat.reduceAdd, Nat.reduceLeDiff, Nat.reduceSub, Nat.sub_zero, Nat.sub_self, Nat.zero_add, Nat.le_refl, Nat.zero_le, List.length_cons, List.length_nil, true_and, and_true, true_or, or_true, eq_self, forall_const, true_implies, not_true_eq_false, not_false_eq_true, false_implies, implies_true, false_and, and_false, false_or, or_false, M0, i10]
      refine t_inI (a := 0) (b := 1) (by decide) (by decide) ?_
      rw [if_neg (hb.resolve_left (fun g => g hv))]
      simp only [xX6_guard_0, xX6_guard_1, xX6_guard_2, xX6_guard_5, xX6_guard_8, xX6_guard_9, xX6_guard_10, xX6_guard_11, xX6_guard_12, xX6_guard_15, xX6_guard_18, xX6_guard_20, xX6_guard_21, xX6_guard_22, xX6_guard_25, xX6_guard_26, xX6_guard_29, xX6_guard_30, xX6_guard_31, xX6_guard_32, xX6_guard_33, xX6_guard_34, xX6_guard_35, xX6_guard_36, xX6_guard_37, xX6_guard_40, xX6_guard_41, xX6_guard_42, xX6_guard_45, xX6_guard_46, xX6_guard_47, xX6_guard_48, xX6_guard_49, xX6_guard_50, xX6_guard_51, xX6_guard_52, xX6_guard_53, xX6_guard_54, xX6_guard_55, xX6_guard_56, xX6_guard_57, xX6_guard_58, xX6_guard_59, Bool.false_eq_true, if_true, if_false, kl_i, kl_a, kl_s, kl_u, kl_l, okS_nil, okS_cons, cat_i, cat_a, cat_s, cat_l, Nat.reduceAdd, Nat.reduceLeDiff, Nat.reduceSub, Nat.sub_zero, Nat.sub_self, Nat.zero_add, Nat.le_refl, Nat.zero_le, List.length_cons, List.length_nil, true_and, and_true, true_or, or_true, eq_self, forall_const, true_implies, not_true_eq_false, not_false_eq_true, false_implies, implies_true, false_and, and_false, false_or, or_false, M0]
      exact h
    · rw [if_neg hv]
      simp only [xX6_guard_0, xX6_guard_1, xX6_guard_2, xX6_guard_5, xX6_guard_8, xX6_guard_9, xX6_guard_10, xX6_guard_11, xX6_guard_12, xX6_guard_15, xX6_guard_18, xX6_guard_20, xX6_guard_21, xX6_guard_22, xX6_guard_25, xX6_guard_26, xX6_guard_29, xX6_guard_30, xX6_guard_31, xX6_guard_32, xX6_guard_33, xX6_guard_34, xX6_guard_35, xX6_guard_36, xX6_guard_37, xX6_guard_40, xX6_guard_41, xX6_guard_42, xX6_guard_45, xX6_guard_46, xX6_guard_47, xX6_guard_48, xX6_guard_49, xX6_guard_50, xX6_guard_51, xX6_guard_52, xX6_guard_53, xX6_guard_54, xX6_guard_55, xX6_guard_56, xX6_guard_57, xX6_guard_58, xX6_guard_59, Bool.false_eq_true, if_true, if_false, kl_i, kl_a, kl_s, kl_u, kl_l, okS_nil, okS_cons, cat_i, cat_a, cat_s, cat_l, Nat.reduceAdd, Nat.reduceLeDiff, Nat.reduceSub, Nat.sub_zero, Nat.sub_self, Nat.zero_add, Nat.le_refl, Nat.zero_le, List.length_cons, List.length_nil, true_and, and_true, true_or, or_true, eq_self, forall_const, true_implies, not_true_eq_false, not_false_eq_true, false_implies, implies_true, false_and, and_false, false_or, or_false, M0]
      exact h
  refine kX5_guard ?_
  simp only [xX5_guard_0, xX5_guard_1, xX5_guard_4, xX5_guard_5, xX5_guard_8, xX5_guard_11, xX5_guard_12, xX5_guard_15, xX5_guard_16, xX5_guard_17, xX5_guard_20, xX5_guard_22, xX5_guard_23, xX5_guard_24, xX5_guard_27, xX5_guard_28, xX5_guard_31, xX5_guard_34, xX5_guard_35, xX5_guard_38, xX5_guard_39, xX5_guard_40, xX5_guard_41, xX5_guard_44, xX5_guard_45, xX5_guard_48, xX5_guard_51, xX5_guard_52, xX5_guard_55, xX5_guard_56, xX5_guard_59, xX5_guard_62, xX5_guard_63, xX5_guard_64, xX5_guard_65, xX5_guard_66, xX5_guard_67, xX5_guard_68, xX5_guard_69, xX5_guard_70, xX5_guard_71, xX5_guard_72, xX5_guard_75, xX5_guard_76, Bool.false_eq_true, if_true, if_false, kl_i, kl_a, kl_s, kl_u, kl_l, okS_nil, okS_cons, cat_i, cat_a, cat_s, cat_l, Nat.reduceAdd, Nat.reduceLeDiff, Nat.reduceSub, Nat.sub_zero, Nat.sub_self, Nat.zero_add, Nat.le_refl, Nat.zero_le, List.length_cons, List.length_nil, true_and, and_true, true_or, or_true, eq_self, forall_const, true_implies, not_true_eq_false, not_false_eq_true, false_implies, implies_true, false_and, and_false, false_or, or_false, H0, F0, F1, F2, F3, F4, F5, F6, F7, P33.1, P39.1, P45.1]
  refine t_has P33.1 ?_
  rw [h8]
  by_cases hv : ¬ x < 0 ∧ x < nI N
  · rw [if_pos hv]
    simp only [xX5_guard_0, xX5_guard_1, xX5_guard_4, xX5_guard_5, xX5_guard_8, xX5_guard_11, xX5_guard_12, xX5_guard_15, xX5_guard_16, xX5_guard_17, xX5_guard_20, xX5_guard_22, xX5_guard_23, xX5_guard_24, xX5_guard_27, xX5_guard_28, xX5_guard_31, xX5_guard_34, xX5_guard_35, xX5_guard_38, xX5_guard_39, xX5_guard_40, xX5_guard_41, xX5_guard_44, xX5_guard_45, xX5_guard_48, xX5_guard_51, xX5_guard_52, xX5_guard_55, xX5_guard_56, xX5_guard_59, xX5_guard_62, xX5_guard_63, xX5_guard_64, xX5_guard_65, xX5_guard_66, xX5_guard_67, xX5_guard_68, xX5_guard_69, xX5_guard_70, xX5_guard_71, xX5_guard_72, xX5_guard_75, xX5_guard_76, Bool.false_eq_true, if_true, if_false, kl_i, kl_a, kl_s, kl_u, kl_l, okS_nil, okS_cons, cat_i, cat_a, cat_s, cat_l, Nat.reduceAdd, Nat.reduceLeDiff, Nat.reduceSub, Nat.sub_zero, Nat.sub_self, Nat.zero_add, Nat.le_refl, Nat.zero_le, List.length_cons, List.length_nil, true_and, and_true, true_or, or_true, eq_self, forall_const, true_implies, not_true_eq_false, not_false_eq_true, false_implies, implies_true, false_and, and_false, false_or, or_false, H0, F0, F1, F2, F3, F4, F5, F6, F7, P33.1, P39.1, P45.1, i10]
    by_cases hy0 : y < 0
    · exact ⟨fun _ => badm (Or.inr (fun g => g.1 hy0)), fun g => absurd hy0 g⟩
    refine ⟨fun g => absurd g hy0, fun _ => ?_⟩
    by_cases hy1 : 1 < y
    · exact ⟨fun _ => badm (Or.inr (fun g => g.2 hy1)), fun g => absurd hy1 g⟩
    refine ⟨fun g => absurd g hy1, fun _ => ?_⟩
    have hN0 : N ≠ 0 := by
      obtain ⟨v, hlt, _⟩ := nat_of (by omega) hv.1 hv.2
      omega
    have g1 : m 33 5 = 1 := by
      rcases hn.2.2 with g | g
      · exact absurd (hz g).1 hN0
      · exact g
    have hg : m 33 10 = m 204 4 := hn.1.2.2.2.2.1
    refine t_isGuarding P33.1 ?_
    rw [hg]
    have tail : ∀ was : Int32, was = (if gd (m 204 4) x then 1 else 0) → CT K 11 YX0_keep [.ref 51, .ref 33] σ m l (fun _ σ' m' l' => σ' = σ ∧ m' = keepQ m 33 X ∧ l' = l) ∧ CT K 12 YX6_guard [.ref 199, .int x, .int y] σ (upM (keepQ m 33 X) 33 10 (m 204 4 &&& ((1 : Int32) <<< (x &&& 31) ^^^ -1) ||| y <<< (x &&& 31))) l (fun r' σ2 m2 l2 => σ2 = σ ∧ r' = was ∧ RR m2) := by
      intro was hwas
      refine ⟨t_keep hA51 P33 (by omega) hn.2.2 a1 hX ⟨rfl, rfl, rfl⟩, ?_⟩
      have e204 : ∀ z, upM (keepQ m 33 X) 33 10 z 204 = m 204 := fun z => by rw [upM_n _ _ _ (by decide), keepQ_at (by decide) (by omega)]
      have e199 : ∀ z, upM (keepQ m 33 X) 33 10 z 199 = m 199 := fun z => by rw [upM_n _ _ _ (by decide), keepQ_at (by decide) (by omega)]
      refine kX6_guard ?_
      simp only [xX6_guard_0, xX6_guard_1, xX6_guard_2, xX6_guard_5, xX6_guard_8, xX6_guard_9, xX6_guard_10, xX6_guard_11, xX6_guard_12, xX6_guard_15, xX6_guard_18, xX6_guard_20, xX6_guard_21, xX6_guard_22, xX6_guard_25, xX6_guard_26, xX6_guard_29, xX6_guard_30, xX6_guard_31, xX6_guard_32, xX6_guard_33, xX6_guard_34, xX6_guard_35, xX6_guard_36, xX6_guard_37, xX6_guard_40, xX6_guard_41, xX6_guard_42, xX6_guard_45, xX6_guard_46, xX6_guard_47, xX6_guard_48, xX6_guard_49, xX6_guard_50, xX6_guard_51, xX6_guard_52, xX6_guard_53, xX6_guard_54, xX6_guard_55, xX6_guard_56, xX6_guard_57, xX6_guard_58, xX6_guard_59, Bool.false_eq_true, if_true, if_false, kl_i, kl_a, kl_s, kl_u, kl_l, okS_nil, okS_cons, cat_i, cat_a, cat_s, cat_l, Nat.reduceAdd, Nat.reduceLeDiff, Nat.reduceSub, Nat.sub_zero, Nat.sub_self, Nat.zero_add, Nat.le_refl, Nat.zero_le, List.length_cons, List.length_nil, true_and, and_true, true_or, or_true, eq_self, forall_const, true_implies, not_true_eq_false, not_false_eq_true, false_implies, implies_true, false_and, and_false, false_or, or_false, M0]
      refine t_isVillage hM (by rw [e204]; exact h2) h7 ?_
      rw [if_pos hv]
      simp only [xX6_guard_0, xX6_guard_1, xX6_guard_2, xX6_guard_5, xX6_guard_8, xX6_guard_9, xX6_guard_10, xX6_guard_11, xX6_guard_12, xX6_guard_15, xX6_guard_18, xX6_guard_20, xX6_guard_21, xX6_guard_22, xX6_guard_25, xX6_guard_26, xX6_guard_29, xX6_guard_30, xX6_guard_31, xX6_guard_32, xX6_guard_33, xX6_guard_34, xX6_guard_35, xX6_guard_36, xX6_guard_37, xX6_guard_40, xX6_guard_41, xX6_guard_42, xX6_guard_45, xX6_guard_46, xX6_guard_47, xX6_guard_48, xX6_guard_49, xX6_guard_50, xX6_guard_51, xX6_guard_52, xX6_guard_53, xX6_guard_54, xX6_guard_55, xX6_guard_56, xX6_guard_57, xX6_guard_58, xX6_guard_59, Bool.false_eq_true, if_true, if_false, kl_i, kl_a, kl_s, kl_u, kl_l, okS_nil, okS_cons, cat_i, cat_a, cat_s, cat_l, Nat.reduceAdd, Nat.reduceLeDiff, Nat.reduceSub, Nat.sub_zero, Nat.sub_self, Nat.zero_add, Nat.le_refl, Nat.zero_le, List.length_cons, List.length_nil, true_and, and_true, true_or, or_true, eq_self, forall_const, true_implies, not_true_eq_false, not_false_eq_true, false_implies, implies_true, false_and, and_false, false_or, or_false, M0, i10]
      refine t_inI (a := 0) (b := 1) (by decide) (by decide) ?_
      rw [if_pos ⟨hy0, hy1⟩]
      simp only [xX6_guard_0, xX6_guard_1, xX6_guard_2, xX6_guard_5, xX6_guard_8, xX6_guard_9, xX6_guard_10, xX6_guard_11, xX6_guard_12, xX6_guard_15, xX6_guard_18, xX6_guard_20, xX6_guard_21, xX6_guard_22, xX6_guard_25, xX6_guard_26, xX6_guard_29, xX6_guard_30, xX6_guard_31, xX6_guard_32, xX6_guard_33, xX6_guard_34, xX6_guard_35, xX6_guard_36, xX6_guard_37, xX6_guard_40, xX6_guard_41, xX6_guard_42, xX6_guard_45, xX6_guard_46, xX6_guard_47, xX6_guard_48, xX6_guard_49, xX6_guard_50, xX6_guard_51, xX6_guard_52, xX6_guard_53, xX6_guard_54, xX6_guard_55, xX6_guard_56, xX6_guard_57, xX6_guard_58, xX6_guard_59, Bool.false_eq_true, if_true, if_false, kl_i, kl_a, kl_s, kl_u, kl_l, okS_nil, okS_cons, cat_i, cat_a, cat_s, cat_l, Nat.reduceAdd, Nat.reduceLeDiff, Nat.reduceSub, Nat.sub_zero, Nat.sub_self, Nat.zero_add, Nat.le_refl, Nat.zero_le, List.length_cons, List.length_nil, true_and, and_true, true_or, or_true, eq_self, forall_const, true_implies, not_true_eq_false, not_false_eq_true, false_implies, implies_true, false_and, and_false, false_or, or_false, M0, i10]
      refine t_remember hM (by rw [e199]; exact a3) hA ?_
      have r204 : ∀ z, remQ (upM (keepQ m 33 X) 33 10 z) A 204 = m 204 := fun z => by rw [remQ_at (by decide) (by decide), e204]
      simp only [xX6_guard_0, xX6_guard_1, xX6_guard_2, xX6_guard_5, xX6_guard_8, xX6_guard_9, xX6_guard_10, xX6_guard_11, xX6_guard_12, xX6_guard_15, xX6_guard_18, xX6_guard_20, xX6_guard_21, xX6_guard_22, xX6_guard_25, xX6_guard_26, xX6_guard_29, xX6_guard_30, xX6_guard_31, xX6_guard_32, xX6_guard_33, xX6_guard_34, xX6_guard_35, xX6_guard_36, xX6_guard_37, xX6_guard_40, xX6_guard_41, xX6_guard_42, xX6_guard_45, xX6_guard_46, xX6_guard_47, xX6_guard_48, xX6_guard_49, xX6_guard_50, xX6_guard_51, xX6_guard_52, xX6_guard_53, xX6_guard_54, xX6_guard_55, xX6_guard_56, xX6_guard_57, xX6_guard_58, xX6_guard_59, Bool.false_eq_true, if_true, if_false, kl_i, kl_a, kl_s, kl_u, kl_l, okS_nil, okS_cons, cat_i, cat_a, cat_s, cat_l, Nat.reduceAdd, Nat.reduceLeDiff, Nat.reduceSub, Nat.sub_zero, Nat.sub_self, Nat.zero_add, Nat.le_refl, Nat.zero_le, List.length_cons, List.length_nil, true_and, and_true, true_or, or_true, eq_self, forall_const, true_implies, not_true_eq_false, not_false_eq_true, false_implies, implies_true, false_and, and_false, false_or, or_false, M0, R8, A204, L204, cl4, vi4, r204, gd_x]
      exact ⟨hwas.symm, RR_guard h h7 hX hA hn hb ht a1 a2 ha g1 rfl⟩
    have ek : keepQ m 33 X 33 10 = m 204 4 := by rw [keepQ_at (by decide) (by omega)]; exact hg
    cases hgd : gd (m 204 4) x
    · obtain ⟨t1, t2⟩ := tail 0 (by rw [hgd]; rfl)
      simp only [xX5_guard_0, xX5_guard_1, xX5_guard_4, xX5_guard_5, xX5_guard_8, xX5_guard_11, xX5_guard_12, xX5_guard_15, xX5_guard_16, xX5_guard_17, xX5_guard_20, xX5_guard_22, xX5_guard_23, xX5_guard_24, xX5_guard_27, xX5_guard_28, xX5_guard_31, xX5_guard_34, xX5_guard_35, xX5_guard_38, xX5_guard_39, xX5_guard_40, xX5_guard_41, xX5_guard_44, xX5_guard_45, xX5_guard_48, xX5_guard_51, xX5_guard_52, xX5_guard_55, xX5_guard_56, xX5_guard_59, xX5_guard_62, xX5_guard_63, xX5_guard_64, xX5_guard_65, xX5_guard_66, xX5_guard_67, xX5_guard_68, xX5_guard_69, xX5_guard_70, xX5_guard_71, xX5_guard_72, xX5_guard_75, xX5_guard_76, Bool.false_eq_true, if_true, if_false, kl_i, kl_a, kl_s, kl_u, kl_l, okS_nil, okS_cons, cat_i, cat_a, cat_s, cat_l, Nat.reduceAdd, Nat.reduceLeDiff, Nat.reduceSub, Nat.sub_zero, Nat.sub_self, Nat.zero_add, Nat.le_refl, Nat.zero_le, List.length_cons, List.length_nil, true_and, and_true, true_or, or_true, eq_self, forall_const, true_implies, not_true_eq_false, not_false_eq_true, false_implies, implies_true, false_and, and_false, false_or, or_false, H0, F0, F1, F2, F3, F4, F5, F6, F7, P33.1, P39.1, P45.1, hA51.1]
      refine t1.mono (Nat.le_refl _) (fun r σ' m' l' hq => ?_)
      obtain ⟨hq1, hq2, hq3⟩ := hq
      subst hq1 hq2 hq3
      simp only [xX5_guard_0, xX5_guard_1, xX5_guard_4, xX5_guard_5, xX5_guard_8, xX5_guard_11, xX5_guard_12, xX5_guard_15, xX5_guard_16, xX5_guard_17, xX5_guard_20, xX5_guard_22, xX5_guard_23, xX5_guard_24, xX5_guard_27, xX5_guard_28, xX5_guard_31, xX5_guard_34, xX5_guard_35, xX5_guard_38, xX5_guard_39, xX5_guard_40, xX5_guard_41, xX5_guard_44, xX5_guard_45, xX5_guard_48, xX5_guard_51, xX5_guard_52, xX5_guard_55, xX5_guard_56, xX5_guard_59, xX5_guard_62, xX5_guard_63, xX5_guard_64, xX5_guard_65, xX5_guard_66, xX5_guard_67, xX5_guard_68, xX5_guard_69, xX5_guard_70, xX5_guard_71, xX5_guard_72, xX5_guard_75, xX5_guard_76, Bool.false_eq_true, if_true, if_false, kl_i, kl_a, kl_s, kl_u, kl_l, okS_nil, okS_cons, cat_i, cat_a, cat_s, cat_l, Nat.reduceAdd, Nat.reduceLeDiff, Nat.reduceSub, Nat.sub_zero, Nat.sub_self, Nat.zero_add, Nat.le_refl, Nat.zero_le, List.length_cons, List.length_nil, true_and, and_true, true_or, or_true, eq_self, forall_const, true_implies, not_true_eq_false, not_false_eq_true, false_implies, implies_true, false_and, and_false, false_or, or_false, H0, F0, F1, F2, F3, F4, F5, F6, F7, P33.1, P39.1, P45.1, ek]
      exact t2
    · obtain ⟨t1, t2⟩ := tail 1 (by rw [hgd]; rfl)
      simp only [xX5_guard_0, xX5_guard_1, xX5_guard_4, xX5_guard_5, xX5_guard_8, xX5_guard_11, xX5_guard_12, xX5_guard_15, xX5_guard_16, xX5_guard_17, xX5_guard_20, xX5_guard_22, xX5_guard_23, xX5_guard_24, xX5_guard_27, xX5_guard_28, xX5_guard_31, xX5_guard_34, xX5_guard_35, xX5_guard_38, xX5_guard_39, xX5_guard_40, xX5_guard_41, xX5_guard_44, xX5_guard_45, xX5_guard_48, xX5_guard_51, xX5_guard_52, xX5_guard_55, xX5_guard_56, xX5_guard_59, xX5_guard_62, xX5_guard_63, xX5_guard_64, xX5_guard_65, xX5_guard_66, xX5_guard_67, xX5_guard_68, xX5_guard_69, xX5_guard_70, xX5_guard_71, xX5_guard_72, xX5_guard_75, xX5_guard_76, Bool.false_eq_true, if_true, if_false, kl_i, kl_a, kl_s, kl_u, kl_l, okS_nil, okS_cons, cat_i, cat_a, cat_s, cat_l, Nat.reduceAdd, Nat.reduceLeDiff, Nat.reduceSub, Nat.sub_zero, Nat.sub_self, Nat.zero_add, Nat.le_refl, Nat.zero_le, List.length_cons, List.length_nil, true_and, and_true, true_or, or_true, eq_self, forall_const, true_implies, not_true_eq_false, not_false_eq_true, false_implies, implies_true, false_and, and_false, false_or, or_false, H0, F0, F1, F2, F3, F4, F5, F6, F7, P33.1, P39.1, P45.1, hA51.1, i10]
      refine t1.mono (Nat.le_refl _) (fun r σ' m' l' hq => ?_)
      obtain ⟨hq1, hq2, hq3⟩ := hq
      subst hq1 hq2 hq3
      simp only [xX5_guard_0, xX5_guard_1, xX5_guard_4, xX5_guard_5, xX5_guard_8, xX5_guard_11, xX5_guard_12, xX5_guard_15, xX5_guard_16, xX5_guard_17, xX5_guard_20, xX5_guard_22, xX5_guard_23, xX5_guard_24, xX5_guard_27, xX5_guard_28, xX5_guard_31, xX5_guard_34, xX5_guard_35, xX5_guard_38, xX5_guard_39, xX5_guard_40, xX5_guard_41, xX5_guard_44, xX5_guard_45, xX5_guard_48, xX5_guard_51, xX5_guard_52, xX5_guard_55, xX5_guard_56, xX5_guard_59, xX5_guard_62, xX5_guard_63, xX5_guard_64, xX5_guard_65, xX5_guard_66, xX5_guard_67, xX5_guard_68, xX5_guard_69, xX5_guard_70, xX5_guard_71, xX5_guard_72, xX5_guard_75, xX5_guard_76, Bool.false_eq_true, if_true, if_false, kl_i, kl_a, kl_s, kl_u, kl_l, okS_nil, okS_cons, cat_i, cat_a, cat_s, cat_l, Nat.reduceAdd, Nat.reduceLeDiff, Nat.reduceSub, Nat.sub_zero, Nat.sub_self, Nat.zero_add, Nat.le_refl, Nat.zero_le, List.length_cons, List.length_nil, true_and, and_true, true_or, or_true, eq_self, forall_const, true_implies, not_true_eq_false, not_false_eq_true, false_implies, implies_true, false_and, and_false, false_or, or_false, H0, F0, F1, F2, F3, F4, F5, F6, F7, P33.1, P39.1, P45.1, ek]
      exact t2
  · rw [if_neg hv]
    simp only [xX5_guard_0, xX5_guard_1, xX5_guard_4, xX5_guard_5, xX5_guard_8, xX5_guard_11, xX5_guard_12, xX5_guard_15, xX5_guard_16, xX5_guard_17, xX5_guard_20, xX5_guard_22, xX5_guard_23, xX5_guard_24, xX5_guard_27, xX5_guard_28, xX5_guard_31, xX5_guard_34, xX5_guard_35, xX5_guard_38, xX5_guard_39, xX5_guard_40, xX5_guard_41, xX5_guard_44, xX5_guard_45, xX5_guard_48, xX5_guard_51, xX5_guard_52, xX5_guard_55, xX5_guard_56, xX5_guard_59, xX5_guard_62, xX5_guard_63, xX5_guard_64, xX5_guard_65, xX5_guard_66, xX5_guard_67, xX5_guard_68, xX5_guard_69, xX5_guard_70, xX5_guard_71, xX5_guard_72, xX5_guard_75, xX5_guard_76, Bool.false_eq_true, if_true, if_false, kl_i, kl_a, kl_s, kl_u, kl_l, okS_nil, okS_cons, cat_i, cat_a, cat_s, cat_l, Nat.reduceAdd, Nat.reduceLeDiff, Nat.reduceSub, Nat.sub_zero, Nat.sub_self, Nat.zero_add, Nat.le_refl, Nat.zero_le, List.length_cons, List.length_nil, true_and, and_true, true_or, or_true, eq_self, forall_const, true_implies, not_true_eq_false, not_false_eq_true, false_implies, implies_true, false_and, and_false, false_or, or_false, H0, F0, F1, F2, F3, F4, F5, F6, F7, P33.1, P39.1, P45.1]
    exact badm (Or.inl hv)
