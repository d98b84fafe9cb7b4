/-! calls: plain -/
theorem p_plain {K : Cx} {σ : Sg} (hw : WF σ) : PAIR K σ YX5_plain YX6_plain [] := by
  intro m l h
  obtain ⟨wN, wR, wT, wA, wL, wM, wI⟩ := hw
  have hM := wM
  have hA51 := wA
  have hT := wT
  obtain ⟨H0, F0, F1, F2, F3, F4, F5, F6, F7, P33, P39, P45⟩ := wN
  obtain ⟨M0, R0, R1, R2, R4, R8, R10, R11, R12, R14, R20, R21, R22, A200, L200, A201, L201, A202, L202, A203, L203, A204, L204, A205, L205, A206, L206, A207, L207, A208, L208, A209, L209, A210, L210, A211, L211⟩ := wM
  obtain ⟨c1, c2, c3, ⟨T, B, P, u1, u2, u3, u4, u5⟩, c5, c6, c7⟩ := h
  obtain ⟨N, X, A, h7, hn, hb, ht, hz, hX, hA, a1, a2, a3, ha⟩ := c5
  have rel := read_rel (B := B) (T := T) (P := P) (getP m 39) (m 209)
  obtain ⟨rl1, rl2, rl3⟩ := rel
  -- the model's run, from a memory that agrees with m where it looks
  have mod : ∀ (m1 : Mm) (Q : Rt), m1 199 = m 199 → m1 203 = m 203 → m1 209 = m 209 → m1 204 = m 204 →
      ((rdM B T P (m 209)).1.1 = 0 → ∀ a' b t w, Q ((rdM B T P (m 209)).2 2) σ (setR (setR (setR m1 209 (rdM B T P (m 209)).2) 199 (upd (upd (upd (mp (upd (upd (m 199) 19 (nI T)) 5 0) (m 199 6) a' b t) 6 (m 199 6)) 7 1) 9 0)) 204 (cpA (rdM B T P (m 209)).2 (m 204))) (upL l 199 18 w)) →
      ((rdM B T P (m 209)).1.1 ≠ 0 → ∀ r' a' t w, Q (-1000100 - nI (rdM B T P (m 209)).1.2.1) σ (setR (setR m1 209 r') 199 (mp (upd (upd (m 199) 19 (nI T)) 5 0) (nI (rdM B T P (m 209)).1.1) a' (nI (rdM B T P (m 209)).1.2.1) t)) (upL l 199 18 w)) →
      CT K 12 YX6_plain [.ref 199] σ m1 l Q := by
    intro m1 Q e199 e203 e209 e204 q1 q0
    refine kX6_plain ?_
    simp only [xX6_plain_0, xX6_plain_1, xX6_plain_2, xX6_plain_5, xX6_plain_8, xX6_plain_9, xX6_plain_10, xX6_plain_13, xX6_plain_14, xX6_plain_17, xX6_plain_18, xX6_plain_19, xX6_plain_22, xX6_plain_25, xX6_plain_27, xX6_plain_28, xX6_plain_31, xX6_plain_32, xX6_plain_33, xX6_plain_34, xX6_plain_35, xX6_plain_38, xX6_plain_39, xX6_plain_40, xX6_plain_43, xX6_plain_44, xX6_plain_45, xX6_plain_48, xX6_plain_49, xX6_plain_52, xX6_plain_53, xX6_plain_54, xX6_plain_57, xX6_plain_58, xX6_plain_61, xX6_plain_62, xX6_plain_65, xX6_plain_66, xX6_plain_67, Bool.false_eq_true, if_true, if_false, kl_i, kl_a, kl_s, kl_u, kl_l, okS_nil, okS_cons, cat_i, cat_a, cat_s, cat_l, Nat.reduceAdd, Nat.reduceLeDiff, Nat.reduceSub, Nat.sub_zero, Nat.sub_self, Nat.zero_add, Nat.le_refl, Nat.zero_le, List.length_cons, List.length_nil, true_and, and_true, true_or, or_true, eq_self, forall_const, true_implies, not_true_eq_false, not_false_eq_true, false_implies, implies_true, false_and, and_false, false_or, or_false, M0, e199, u4, upM_setR, setR_setR, s199]
    have e6 : upd (upd (m 199) 19 (nI T)) 5 0 6 = m 199 6 := by rw [upd_n _ _ (by decide), upd_n _ _ (by decide)]
    have hb1 : tpM m1 B T := by unfold tpM; rw [e203]; exact u2
    have es := mp_id (upd (upd (m 199) 19 (nI T)) 5 0)
    rw [e6] at es ⊢
    rw [← es]
    refine t_reads (P := P) hM hb1 (by rw [upd_n _ _ (by decide), upd_s]) (fun z a' b t w => ?_) (fun z r' a' t w => ?_)
    · rw [e209] at z ⊢
      have g := q1 z a' b t w
      simp only [xX6_plain_0, xX6_plain_1, xX6_plain_2, xX6_plain_5, xX6_plain_8, xX6_plain_9, xX6_plain_10, xX6_plain_13, xX6_plain_14, xX6_plain_17, xX6_plain_18, xX6_plain_19, xX6_plain_22, xX6_plain_25, xX6_plain_27, xX6_plain_28, xX6_plain_31, xX6_plain_32, xX6_plain_33, xX6_plain_34, xX6_plain_35, xX6_plain_38, xX6_plain_39, xX6_plain_40, xX6_plain_43, xX6_plain_44, xX6_plain_45, xX6_plain_48, xX6_plain_49, xX6_plain_52, xX6_plain_53, xX6_plain_54, xX6_plain_57, xX6_plain_58, xX6_plain_61, xX6_plain_62, xX6_plain_65, xX6_plain_66, xX6_plain_67, Bool.false_eq_true, if_true, if_false, kl_i, kl_a, kl_s, kl_u, kl_l, okS_nil, okS_cons, cat_i, cat_a, cat_s, cat_l, Nat.reduceAdd, Nat.reduceLeDiff, Nat.reduceSub, Nat.sub_zero, Nat.sub_self, Nat.zero_add, Nat.le_refl, Nat.zero_le, List.length_cons, List.length_nil, true_and, and_true, true_or, or_true, eq_self, forall_const, true_implies, not_true_eq_false, not_false_eq_true, false_implies, implies_true, false_and, and_false, false_or, or_false, M0, i10, upM_setR, setR_setR, s199, R20, R8]
      refine t_mCopies (i := 0) (j := 0) A209 A204 L209 L204 (by omega) (by omega) (by omega) (by omega) (by decide) ?_
      have k1 : ∀ F, setR (setR m1 209 (rdM B T P (m 209)).2) 199 F 209 = (rdM B T P (m 209)).2 := fun F => by rw [setR_n _ _ (by decide), setR_s]
      have k2 : ∀ F, setR (setR m1 209 (rdM B T P (m 209)).2) 199 F 204 = m 204 := fun F => by rw [setR_n _ _ (by decide), setR_n _ _ (by decide)]; exact e204
      rw [k1, k2]
      have k3 : va_cpy (rdM B T P (m 209)).2 (m 204) 0 0 40 2 = (rdM B T P (m 209)).2 2 := cpA_j _ _ (by omega)
      simp only [xX6_plain_0, xX6_plain_1, xX6_plain_2, xX6_plain_5, xX6_plain_8, xX6_plain_9, xX6_plain_10, xX6_plain_13, xX6_plain_14, xX6_plain_17, xX6_plain_18, xX6_plain_19, xX6_plain_22, xX6_plain_25, xX6_plain_27, xX6_plain_28, xX6_plain_31, xX6_plain_32, xX6_plain_33, xX6_plain_34, xX6_plain_35, xX6_plain_38, xX6_plain_39, xX6_plain_40, xX6_plain_43, xX6_plain_44, xX6_plain_45, xX6_plain_48, xX6_plain_49, xX6_plain_52, xX6_plain_53, xX6_plain_54, xX6_plain_57, xX6_plain_58, xX6_plain_61, xX6_plain_62, xX6_plain_65, xX6_plain_66, xX6_plain_67, Bool.false_eq_true, if_true, if_false, kl_i, kl_a, kl_s, kl_u, kl_l, okS_nil, okS_cons, cat_i, cat_a, cat_s, cat_l, Nat.reduceAdd, Nat.reduceLeDiff, Nat.reduceSub, Nat.sub_zero, Nat.sub_self, Nat.zero_add, Nat.le_refl, Nat.zero_le, List.length_cons, List.length_nil, true_and, and_true, true_or, or_true, eq_self, forall_const, true_implies, not_true_eq_false, not_false_eq_true, false_implies, implies_true, false_and, and_false, false_or, or_false, M0, R8, A204, L204, cl2, vi2, setR_s, k3]
      exact g
    · rw [e209] at z ⊢
      have g := q0 z r' a' t w
      simp only [xX6_plain_0, xX6_plain_1, xX6_plain_2, xX6_plain_5, xX6_plain_8, xX6_plain_9, xX6_plain_10, xX6_plain_13, xX6_plain_14, xX6_plain_17, xX6_plain_18, xX6_plain_19, xX6_plain_22, xX6_plain_25, xX6_plain_27, xX6_plain_28, xX6_plain_31, xX6_plain_32, xX6_plain_33, xX6_plain_34, xX6_plain_35, xX6_plain_38, xX6_plain_39, xX6_plain_40, xX6_plain_43, xX6_plain_44, xX6_plain_45, xX6_plain_48, xX6_plain_49, xX6_plain_52, xX6_plain_53, xX6_plain_54, xX6_plain_57, xX6_plain_58, xX6_plain_61, xX6_plain_62, xX6_plain_65, xX6_plain_66, xX6_plain_67, Bool.false_eq_true, if_true, if_false, kl_i, kl_a, kl_s, kl_u, kl_l, okS_nil, okS_cons, cat_i, cat_a, cat_s, cat_l, Nat.reduceAdd, Nat.reduceLeDiff, Nat.reduceSub, Nat.sub_zero, Nat.sub_self, Nat.zero_add, Nat.le_refl, Nat.zero_le, List.length_cons, List.length_nil, true_and, and_true, true_or, or_true, eq_self, forall_const, true_implies, not_true_eq_false, not_false_eq_true, false_implies, implies_true, false_and, and_false, false_or, or_false, M0, s199, mp_16]
      exact g
  refine kX5_plain ?_
  simp only [xX5_plain_0, xX5_plain_1, xX5_plain_4, xX5_plain_5, xX5_plain_8, xX5_plain_11, xX5_plain_12, xX5_plain_13, xX5_plain_16, xX5_plain_17, xX5_plain_20, xX5_plain_21, xX5_plain_24, xX5_plain_25, xX5_plain_26, xX5_plain_29, xX5_plain_32, xX5_plain_35, xX5_plain_37, xX5_plain_38, xX5_plain_41, xX5_plain_44, xX5_plain_45, xX5_plain_46, xX5_plain_47, xX5_plain_50, xX5_plain_51, xX5_plain_54, xX5_plain_57, xX5_plain_58, xX5_plain_61, xX5_plain_64, xX5_plain_65, xX5_plain_68, xX5_plain_71, Bool.false_eq_true, if_true, if_false, kl_i, kl_a, kl_s, kl_u, kl_l, okS_nil, okS_cons, cat_i, cat_a, cat_s, cat_l, Nat.reduceAdd, Nat.reduceLeDiff, Nat.reduceSub, Nat.sub_zero, Nat.sub_self, Nat.zero_add, Nat.le_refl, Nat.zero_le, List.length_cons, List.length_nil, true_and, and_true, true_or, or_true, eq_self, forall_const, true_implies, not_true_eq_false, not_false_eq_true, false_implies, implies_true, false_and, and_false, false_or, or_false, H0, F0, F1, F2, F3, F4, F5, F6, F7, P33.1, P39.1, P45.1, hT.1]
  refine t_read hT P39 u1 u3 u5 (fun x y z => ?_)
  have ok : ∀ q, getP (putP m 39 q) 39 = getP (putP m 39 q) 39 := fun _ => rfl
  have eT : ∀ F o, o ≠ 31 → ¬ (39 ≤ o ∧ o < 45) → ∀ q, setR (putP m 39 q) 31 F o = m o := fun F o h1 h2 q => by rw [setR_n _ _ h1, putP_o _ _ (by omega)]
  have up1 : ∀ fl pl a s t n, upd (tp (m 31) fl pl a s t n) 1 0 = tp (upd (m 31) 1 0) fl pl a s t n := fun fl pl a s t n => by
    funext k
    unfold upd tp
    by_cases h : k = 1
    · subst h; rfl
    · rw [if_neg h]
      simp only [if_neg h]
  unfold TS
  by_cases hz0 : (rdM B T P (m 209)).1.1 = 0
  · obtain ⟨N', g7, ⟨gt, g5, gB, gL⟩⟩ := rl3 hz0
    rw [rl1, if_pos hz0]
    simp only [xX5_plain_0, xX5_plain_1, xX5_plain_4, xX5_plain_5, xX5_plain_8, xX5_plain_11, xX5_plain_12, xX5_plain_13, xX5_plain_16, xX5_plain_17, xX5_plain_20, xX5_plain_21, xX5_plain_24, xX5_plain_25, xX5_plain_26, xX5_plain_29, xX5_plain_32, xX5_plain_35, xX5_plain_37, xX5_plain_38, xX5_plain_41, xX5_plain_44, xX5_plain_45, xX5_plain_46, xX5_plain_47, xX5_plain_50, xX5_plain_51, xX5_plain_54, xX5_plain_57, xX5_plain_58, xX5_plain_61, xX5_plain_64, xX5_plain_65, xX5_plain_68, xX5_plain_71, Bool.false_eq_true, if_true, if_false, kl_i, kl_a, kl_s, kl_u, kl_l, okS_nil, okS_cons, cat_i, cat_a, cat_s, cat_l, Nat.reduceAdd, Nat.reduceLeDiff, Nat.reduceSub, Nat.sub_zero, Nat.sub_self, Nat.zero_add, Nat.le_refl, Nat.zero_le, List.length_cons, List.length_nil, true_and, and_true, true_or, or_true, eq_self, forall_const, true_implies, not_true_eq_false, not_false_eq_true, false_implies, implies_true, false_and, and_false, false_or, or_false, H0, F0, F1, F2, F3, F4, F5, F6, F7, P33.1, P39.1, P45.1, i10, hT.1, upM_setR, setR_setR, s31, up1]
    refine t_take P33 P39 (by omega) (Or.inr ?_) ?_
    · rw [p39_0]; exact g5
    simp only [xX5_plain_0, xX5_plain_1, xX5_plain_4, xX5_plain_5, xX5_plain_8, xX5_plain_11, xX5_plain_12, xX5_plain_13, xX5_plain_16, xX5_plain_17, xX5_plain_20, xX5_plain_21, xX5_plain_24, xX5_plain_25, xX5_plain_26, xX5_plain_29, xX5_plain_32, xX5_plain_35, xX5_plain_37, xX5_plain_38, xX5_plain_41, xX5_plain_44, xX5_plain_45, xX5_plain_46, xX5_plain_47, xX5_plain_50, xX5_plain_51, xX5_plain_54, xX5_plain_57, xX5_plain_58, xX5_plain_61, xX5_plain_64, xX5_plain_65, xX5_plain_68, xX5_plain_71, Bool.false_eq_true, if_true, if_false, kl_i, kl_a, kl_s, kl_u, kl_l, okS_nil, okS_cons, cat_i, cat_a, cat_s, cat_l, Nat.reduceAdd, Nat.reduceLeDiff, Nat.reduceSub, Nat.sub_zero, Nat.sub_self, Nat.zero_add, Nat.le_refl, Nat.zero_le, List.length_cons, List.length_nil, true_and, and_true, true_or, or_true, eq_self, forall_const, true_implies, not_true_eq_false, not_false_eq_true, false_implies, implies_true, false_and, and_false, false_or, or_false, H0, F0, F1, F2, F3, F4, F5, F6, F7, P33.1, P39.1, P45.1, hA51.1]
    refine t_forgetAll hA51 ?_
    sorry
  · rw [rl1, if_neg hz0]
    simp only [xX5_plain_0, xX5_plain_1, xX5_plain_4, xX5_plain_5, xX5_plain_8, xX5_plain_11, xX5_plain_12, xX5_plain_13, xX5_plain_16, xX5_plain_17, xX5_plain_20, xX5_plain_21, xX5_plain_24, xX5_plain_25, xX5_plain_26, xX5_plain_29, xX5_plain_32, xX5_plain_35, xX5_plain_37, xX5_plain_38, xX5_plain_41, xX5_plain_44, xX5_plain_45, xX5_plain_46, xX5_plain_47, xX5_plain_50, xX5_plain_51, xX5_plain_54, xX5_plain_57, xX5_plain_58, xX5_plain_61, xX5_plain_64, xX5_plain_65, xX5_plain_68, xX5_plain_71, Bool.false_eq_true, if_true, if_false, kl_i, kl_a, kl_s, kl_u, kl_l, okS_nil, okS_cons, cat_i, cat_a, cat_s, cat_l, Nat.reduceAdd, Nat.reduceLeDiff, Nat.reduceSub, Nat.sub_zero, Nat.sub_self, Nat.zero_add, Nat.le_refl, Nat.zero_le, List.length_cons, List.length_nil, true_and, and_true, true_or, or_true, eq_self, forall_const, true_implies, not_true_eq_false, not_false_eq_true, false_implies, implies_true, false_and, and_false, false_or, or_false, H0, F0, F1, F2, F3, F4, F5, F6, F7, P33.1, P39.1, P45.1, hT.1, upM_setR, setR_setR, s31, up1, tp_2, tp_3]
    sorry
