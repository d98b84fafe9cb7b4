/-! calls: plain -/
theorem p_plain {K : Cx} {σ : Sg} (hw : WF σ) : PAIR K σ YX5_plain YX6_plain [] := by
  intro m l h
  obtain ⟨wN, wR, wT, wA, wL, wM, wI⟩ := hw
  have hM := wM
  have hA51 := wA
  have hT := wT
  obtain ⟨H0, F0, F1, F2, F3, F4, F5, F6, F7, P33, P39, P45⟩ := wN
  obtain ⟨M0, R0, R1, R2, R4, R8, R10, R11, R12, R14, R20, R21, R22, A200, L200, A201, L201, A202, L202, A203, L203, A204, L204, A205, L205, A206, L206, A207, L207, A208, L208, A209, L209, A210, L210, A211, L211⟩ := wM
  obtain ⟨c1, c2, c3, ⟨T, B, P, u1, u2, u3, u4, u5⟩, c5, c6, c7⟩ := h
  obtain ⟨N, X, A, h7, hn, hb, ht, hz, hX, hA, a1, a2, a3, ha⟩ := c5
  have rel := read_rel (B := B) (T := T) (P := P) (getP m 39) (m 209)
  obtain ⟨rl1, rl2, rl3⟩ := rel
  -- the model's run, from a memory that agrees with m where it looks
  have mod : ∀ (m1 : Mm) (Q : Rt), m1 199 = m 199 → m1 203 = m 203 → m1 209 = m 209 → m1 204 = m 204 →
      ((rdM B T P (m 209)).1.1 = 0 → ∀ a' b t w, Q ((rdM B T P (m 209)).2 2) σ (setR (setR (setR m1 209 (rdM B T P (m 209)).2) 199 (upd (upd (upd (mp (upd (upd (m 199) 19 (nI T)) 5 0) (m 199 6) a' b t) 6 (m 199 6)) 7 1) 9 0)) 204 (cpA (rdM B T P (m 209)).2 (m 204))) (upL l 199 18 w)) →
      ((rdM B T P (m 209)).1.1 ≠ 0 → ∀ r' a' t w, Q (-1000100 - nI (rdM B T P (m 209)).1.2.1) σ (setR (setR m1 209 r') 199 (mp (upd (upd (m 199) 19 (nI T)) 5 0) (nI (rdM B T P (m 209)).1.1) a' (nI (rdM B T P (m 209)).1.2.1) t)) (upL l 199 18 w)) →
      CT K 12 YX6_plain [.ref 199] σ m1 l Q := by
    intro m1 Q e199 e203 e209 e204 q1 q0
    refine kX6_plain ?_
    simp only [xX6_plain_0, xX6_plain_1, xX6_plain_2, xX6_plain_5, xX6_plain_8, xX6_plain_9, xX6_plain_10, xX6_plain_13, xX6_plain_14, xX6_plain_17, xX6_plain_18, xX6_plain_19, xX6_plain_22, xX6_plain_25, xX6_plain_27, xX6_plain_28, xX6_plain_31, xX6_plain_32, xX6_plain_33, xX6_plain_34, xX6_plain_35, xX6_plain_38, xX6_plain_39, xX6_plain_40, xX6_plain_43, xX6_plain_44, xX6_plain_45, xX6_plain_48, xX6_plain_49, xX6_plain_52, xX6_plain_53, xX6_plain_54, xX6_plain_57, xX6_plain_58, xX6_plain_61, xX6_plain_62, xX6_plain_65, xX6_plain_66, xX6_plain_67, Bool.false_eq_true, if_true, if_false, kl_i, kl_a, kl_s, kl_u, kl_l, okS_nil, okS_cons, cat_i, cat_a, cat_s, cat_l, Nat.reduceAdd, Nat.reduceLeDiff, Nat.reduceSub, Nat.sub_zero, Nat.sub_self, Nat.zero_add, Nat.le_refl, Nat.zero_le, List.length_cons, List.length_nil, true_and, and_true, true_or, or_true, eq_self, forall_const, true_implies, not_true_eq_false, not_false_eq_true, false_implies, implies_true, false_and, and_false, false_or, or_false, M0, e199, u4, upM_setR, setR_setR, s199]
    have e6 : upd (upd (m 199) 19 (nI T)) 5 0 6 = m 199 6 := by rw [upd_n _ _ (by decide), upd_n _ _ (by decide)]
    have hb1 : tpM m1 B T := by unfold tpM; rw [e203]; exact u2
    have es := mp_id (upd (upd (m 199) 19 (nI T)) 5 0)
    rw [e6] at es ⊢
    rw [← es]
    refine t_reads (P := P) hM hb1 (by rw [upd_n _ _ (by decide), upd_s]) (fun z a' b t w => ?_) (fun z r' a' t w => ?_)
    · rw [e209] at z ⊢
      have g := q1 z a' b t w
      simp only [xX6_plain_0, xX6_plain_1, xX6_plain_2, xX6_plain_5, xX6_plain_8, xX6_plain_9, xX6_plain_10, xX6_plain_13, xX6_plain_14, xX6_plain_17, xX6_plain_18, xX6_plain_19, xX6_plain_22, xX6_plain_25, xX6_plain_27, xX6_plain_28, xX6_plain_31, xX6_plain_32, xX6_plain_33, xX6_plain_34, xX6_plain_35, xX6_plain_38, xX6_plain_39, xX6_plain_40, xX6_plain_43, xX6_plain_44, xX6_plain_45, xX6_plain_48, xX6_plain_49, xX6_plain_52, xX6_plain_53, xX6_plain_54, xX6_plain_57, xX6_plain_58, xX6_plain_61, xX6_plain_62, xX6_plain_65, xX6_plain_66, xX6_plain_67, Bool.false_eq_true, if_true, if_false, kl_i, kl_a, kl_s, kl_u, kl_l, okS_nil, okS_cons, cat_i, cat_a, cat_s, cat_l, Nat.reduceAdd, Nat.reduceLeDiff, Nat.reduceSub, Nat.sub_zero, Nat.sub_self, Nat.zero_add, Nat.le_refl, Nat.zero_le, List.length_cons, List.length_nil, true_and, and_true, true_or, or_true, eq_self, forall_const, true_implies, not_true_eq_false, not_false_eq_true, false_implies, implies_true, false_and, and_false, false_or, or_false, M0, i10, upM_setR, setR_setR, s199, R20, R8]
      refine t_mCopies (i := 0) (j := 0) A209 A204 L209 L204 (by omega) (by omega) (by omega) (by omega) (by decide) ?_
      have k1 : ∀ F, setR (setR m1 209 (rdM B T P (m 209)).2) 199 F 209 = (rdM B T P (m 209)).2 := fun F => by rw [setR_n _ _ (by decide), setR_s]
      have k2 : ∀ F, setR (setR m1 209 (rdM B T P (m 209)).2) 199 F 204 = m 204 := fun F => by rw [setR_n _ _ (by decide), setR_n _ _ (by decide)]; exact e204
      rw [k1, k2]
      have k3 : va_cpy (rdM B T P (m 209)).2 (m 204) 0 0 40 2 = (rdM B T P (m 209)).2 2 := cpA_j _ _ (by omega)
      simp only [xX6_plain_0, xX6_plain_1, xX6_plain_2, xX6_plain_5, xX6_plain_8, xX6_plain_9, xX6_plain_10, xX6_plain_13, xX6_plain_14, xX6_plain_17, xX6_plain_18, xX6_plain_19, xX6_plain_22, xX6_plain_25, xX6_plain_27, xX6_plain_28, xX6_plain_31, xX6_plain_32, xX6_plain_33, xX6_plain_34, xX6_plain_35, xX6_plain_38, xX6_plain_39, xX6_plain_40, xX6_plain_43, xX6_plain_44, xX6_plain_45, xX6_plain_48, xX6_plain_49, xX6_plain_52, xX6_plain_53, xX6_plain_54, xX6_plain_57, xX6_plain_58, xX6_plain_61, xX6_plain_62, xX6_plain_65, xX6_plain_66, xX6_plain_67, Bool.false_eq_true, if_true, if_false, kl_i, kl_a, kl_s, kl_u, kl_l, okS_nil, okS_cons, cat_i, cat_a, cat_s, cat_l, Nat.reduceAdd, Nat.reduceLeDiff, Nat.reduceSub, Nat.sub_zero, Nat.sub_self, Nat.zero_add, Nat.le_refl, Nat.zero_le, List.length_cons, List.length_nil, true_and, and_true, true_or, or_true, eq_self, forall_const, true_implies, not_true_eq_false, not_false_eq_true, false_implies, implies_true, false_and, and_false, false_or, or_false, M0, R8, A204, L204, cl2, vi2, setR_s, k3]
      exact g
    · rw [e209] at z ⊢
      have g := q0 z r' a' t w
      simp only [xX6_plain_0, xX6_plain_1, xX6_plain_2, xX6_plain_5, xX6_plain_8, xX6_plain_9, xX6_plain_10, xX6_plain_13, xX6_plain_14, xX6_plain_17, xX6_plain_18, xX6_plain_19, xX6_plain_22, xX6_plain_25, xX6_plain_27, xX6_plain_28, xX6_plain_31, xX6_plain_32, xX6_plain_33, xX6_plain_34, xX6_plain_35, xX6_plain_38, xX6_plain_39, xX6_plain_40, xX6_plain_43, xX6_plain_44, xX6_plain_45, xX6_plain_48, xX6_plain_49, xX6_plain_52, xX6_plain_53, xX6_plain_54, xX6_plain_57, xX6_plain_58, xX6_plain_61, xX6_plain_62, xX6_plain_65, xX6_plain_66, xX6_plain_67, Bool.false_eq_true, if_true, if_false, kl_i, kl_a, kl_s, kl_u, kl_l, okS_nil, okS_cons, cat_i, cat_a, cat_s, cat_l, Nat.reduceAdd, Nat.reduceLeDiff, Nat.reduceSub, Nat.sub_zero, Nat.sub_self, Nat.zero_add, Nat.le_refl, Nat.zero_le, List.length_cons, List.length_nil, true_and, and_true, true_or, or_true, eq_self, forall_const, true_implies, not_true_eq_false, not_false_eq_true, false_implies, implies_true, false_and, and_false, false_or, or_false, M0, s199, mp_16]
      exact g
  refine kX5_plain ?_
  simp only [xX5_plain_0, xX5_plain_1, xX5_plain_4, xX5_plain_5, xX5_plain_8, xX5_plain_11, xX5_plain_12, xX5_plain_13, xX5_plain_16, xX5_plain_17, xX5_plain_20, xX5_plain_21, xX5_plain_24, xX5_plain_25, xX5_plain_26, xX5_plain_29, xX5_plain_32, xX5_plain_35, xX5_plain_37, xX5_plain_38, xX5_plain_41, xX5_plain_44, xX5_plain_45, xX5_plain_46, xX5_plain_47, xX5_plain_50, xX5_plain_51, xX5_plain_54, xX5_plain_57, xX5_plain_58, xX5_plain_61, xX5_plain_64, xX5_plain_65, xX5_plain_68, xX5_plain_71, Bool.false_eq_true, if_true, if_false, kl_i, kl_a, kl_s, kl_u, kl_l, okS_nil, okS_cons, cat_i, cat_a, cat_s, cat_l, Nat.reduceAdd, Nat.reduceLeDiff, Nat.reduceSub, Nat.sub_zero, Nat.sub_self, Nat.zero_add, Nat.le_refl, Nat.zero_le, List.length_cons, List.length_nil, true_and, and_true, true_or, or_true, eq_self, forall_const, true_implies, not_true_eq_false, not_false_eq_true, false_implies, implies_true, false_and, and_false, false_or, or_false, H0, F0, F1, F2, F3, F4, F5, F6, F7, P33.1, P39.1, P45.1, hT.1]
  refine t_read hT P39 u1 u3 u5 (fun x y z => ?_)
  have ok : ∀ q, getP (putP m 39 q) 39 = getP (putP m 39 q) 39 := fun _ => rfl
  have eT : ∀ F o, o ≠ 31 → ¬ (39 ≤ o ∧ o < 45) → ∀ q, setR (putP m 39 q) 31 F o = m o := fun F o h1 h2 q => by rw [setR_n _ _ h1, putP_o _ _ (by omega)]
  have up1 : ∀ fl pl a s t n, upd (tp (m 31) fl pl a s t n) 1 0 = tp (upd (m 31) 1 0) fl pl a s t n := fun fl pl a s t n => by
    funext k
    unfold upd tp
    by_cases h : k = 1
    · subst h; rfl
    · rw [if_neg h]
      simp only [if_neg h]
  unfold TS
  by_cases hz0 : (rdM B T P (m 209)).1.1 = 0
  · obtain ⟨N', g7, ⟨gt, g5, gB, gL⟩⟩ := rl3 hz0
    rw [rl1, if_pos hz0]
    simp only [xX5_plain_0, xX5_plain_1, xX5_plain_4, xX5_plain_5, xX5_plain_8, xX5_plain_11, xX5_plain_12, xX5_plain_13, xX5_plain_16, xX5_plain_17, xX5_plain_20, xX5_plain_21, xX5_plain_24, xX5_plain_25, xX5_plain_26, xX5_plain_29, xX5_plain_32, xX5_plain_35, xX5_plain_37, xX5_plain_38, xX5_plain_41, xX5_plain_44, xX5_plain_45, xX5_plain_46, xX5_plain_47, xX5_plain_50, xX5_plain_51, xX5_plain_54, xX5_plain_57, xX5_plain_58, xX5_plain_61, xX5_plain_64, xX5_plain_65, xX5_plain_68, xX5_plain_71, Bool.false_eq_true, if_true, if_false, kl_i, kl_a, kl_s, kl_u, kl_l, okS_nil, okS_cons, cat_i, cat_a, cat_s, cat_l, Nat.reduceAdd, Nat.reduceLeDiff, Nat.reduceSub, Nat.sub_zero, Nat.sub_self, Nat.zero_add, Nat.le_refl, Nat.zero_le, List.length_cons, List.length_nil, true_and, and_true, true_or, or_true, eq_self, forall_const, true_implies, not_true_eq_false, not_false_eq_true, false_implies, implies_true, false_and, and_false, false_or, or_false, H0, F0, F1, F2, F3, F4, F5, F6, F7, P33.1, P39.1, P45.1, i10, hT.1, upM_setR, setR_setR, s31, up1]
    refine t_take P33 P39 (by omega) (Or.inr ?_) ?_
    · rw [p39_0]; exact g5
    simp only [xX5_plain_0, xX5_plain_1, xX5_plain_4, xX5_plain_5, xX5_plain_8, xX5_plain_11, xX5_plain_12, xX5_plain_13, xX5_plain_16, xX5_plain_17, xX5_plain_20, xX5_plain_21, xX5_plain_24, xX5_plain_25, xX5_plain_26, xX5_plain_29, xX5_plain_32, xX5_plain_35, xX5_plain_37, xX5_plain_38, xX5_plain_41, xX5_plain_44, xX5_plain_45, xX5_plain_46, xX5_plain_47, xX5_plain_50, xX5_plain_51, xX5_plain_54, xX5_plain_57, xX5_plain_58, xX5_plain_61, xX5_plain_64, xX5_plain_65, xX5_plain_68, xX5_plain_71, Bool.false_eq_true, if_true, if_false, kl_i, kl_a, kl_s, kl_u, kl_l, okS_nil, okS_cons, cat_i, cat_a, cat_s, cat_l, Nat.reduceAdd, Nat.reduceLeDiff, Nat.reduceSub, Nat.sub_zero, Nat.sub_self, Nat.zero_add, Nat.le_refl, Nat.zero_le, List.length_cons, List.length_nil, true_and, and_true, true_or, or_true, eq_self, forall_const, true_implies, not_true_eq_false, not_false_eq_true, false_implies, implies_true, false_and, and_false, false_or, or_false, H0, F0, F1, F2, F3, F4, F5, F6, F7, P33.1, P39.1, P45.1, hA51.1]
    refine t_forgetAll hA51 ?_
    have fin : ∀ (F : Nat → Int32) (M m1 : Mm), F 1 = 0 → F 3 = nI (rdC B T P (getP m 39)).1.2.1 → M = setR (putP m 39 (rdC B T P (getP m 39)).2) 31 F → m1 = upM (putP M 33 (takeQ (getP M 33) (getP M 39))) 51 2 0 → WX (tX5_plain K 11) (fun r σ1 m1 l1 => σ1 = σ ∧ CT K 12 YX6_plain [.ref 199] σ m1 l1 (fun r' σ2 m2 l2 => σ2 = σ ∧ r' = r ∧ RR m2)) (68, [.ref 0, .int 1], [.ref 33], (0, 0), σ, m1, l) := by
      intro F M m1 F1 F3 eM em
      have eo : ∀ o, o ≠ 31 → o ≠ 51 → ¬ (33 ≤ o ∧ o < 45) → m1 o = m o := fun o o1 o2 o3 => by
        rw [em, upM_n _ _ _ o2, putP_o _ _ (by omega), eM]
        exact eT F o o1 (by omega) _
      have e31 : m1 31 = F := by rw [em, upM_n _ _ _ (by decide), putP_o _ _ (by omega), eM, s31]
      have e32 : m1 32 = m 32 := eo 32 (by decide) (by decide) (by omega)
      have e51 : ∀ k, k ≠ 2 → m1 51 k = m 51 k := fun k hk => by
        rw [em, upM_s, upd_n _ _ hk, putP_o _ _ (by omega), eM]
        exact congrFun (eT F 51 (by decide) (by omega) _) k
      have e512 : m1 51 2 = 0 := by rw [em, upM_s, upd_s]
      have eQ : ∀ j, j < 6 → getP m1 33 j = takeQ (getP M 33) (rdC B T P (getP m 39)).2 j := fun j hj => by
        show m1 (33 + j) = _
        rw [em, upM_n _ _ _ (by omega), putP_at _ _ _ hj]
        have hg : ∀ i, i < 6 → getP M 39 i = (rdC B T P (getP m 39)).2 i := fun i hi => by
          show M (39 + i) = _
          rw [eM, setR_n _ _ (by omega)]
          exact putP_at _ _ _ hi
        funext k
        show takeL _ _ 7 j k = takeL _ _ 7 j k
        unfold takeL
        rw [hg j hj]
      have sq : snap N' (getP m1 33) (rdM B T P (m 209)).2 := snap_x g7 eQ (fun _ _ => rfl) (snap_take g7 ⟨gt, gB, g5⟩)
      have r8 : m1 33 8 = (rdM B T P (m 209)).2 2 := sq.1.1.2.2.1
      simp only [xX5_plain_0, xX5_plain_1, xX5_plain_4, xX5_plain_5, xX5_plain_8, xX5_plain_11, xX5_plain_12, xX5_plain_13, xX5_plain_16, xX5_plain_17, xX5_plain_20, xX5_plain_21, xX5_plain_24, xX5_plain_25, xX5_plain_26, xX5_plain_29, xX5_plain_32, xX5_plain_35, xX5_plain_37, xX5_plain_38, xX5_plain_41, xX5_plain_44, xX5_plain_45, xX5_plain_46, xX5_plain_47, xX5_plain_50, xX5_plain_51, xX5_plain_54, xX5_plain_57, xX5_plain_58, xX5_plain_61, xX5_plain_64, xX5_plain_65, xX5_plain_68, xX5_plain_71, Bool.false_eq_true, if_true, if_false, kl_i, kl_a, kl_s, kl_u, kl_l, okS_nil, okS_cons, cat_i, cat_a, cat_s, cat_l, Nat.reduceAdd, Nat.reduceLeDiff, Nat.reduceSub, Nat.sub_zero, Nat.sub_self, Nat.zero_add, Nat.le_refl, Nat.zero_le, List.length_cons, List.length_nil, true_and, and_true, true_or, or_true, eq_self, forall_const, true_implies, not_true_eq_false, not_false_eq_true, false_implies, implies_true, false_and, and_false, false_or, or_false, H0, F0, F1, F2, F3, F4, F5, F6, F7, P33.1, P39.1, P45.1]
      refine mod m1 _ (eo 199 (by decide) (by decide) (by omega)) (eo 203 (by decide) (by decide) (by omega)) (eo 209 (by decide) (by decide) (by omega)) (eo 204 (by decide) (by decide) (by omega)) (fun _ a' b t w => ⟨rfl, r8.symm, ?_⟩) (fun g => absurd hz0 g)
      have fin2 : ∀ m2, m2 = setR (setR (setR m1 209 (rdM B T P (m 209)).2) 199 (upd (upd (upd (mp (upd (upd (m 199) 19 (nI T)) 5 0) (m 199 6) a' b t) 6 (m 199 6)) 7 1) 9 0)) 204 (cpA (rdM B T P (m 209)).2 (m 204)) → RR m2 := by
        intro m2 e2
        have f1 : ∀ o, o ≠ 209 → o ≠ 199 → o ≠ 204 → m2 o = m1 o := fun o o1 o2 o3 => by rw [e2, setR_n _ _ o3, setR_n _ _ o2, setR_n _ _ o1]
        have f2 : ∀ o, o ≠ 31 → o ≠ 51 → ¬ (33 ≤ o ∧ o < 45) → o ≠ 209 → o ≠ 199 → o ≠ 204 → m2 o = m o := fun o o1 o2 o3 o4 o5 o6 => (f1 o o4 o5 o6).trans (eo o o1 o2 o3)
        have f199 : m2 199 = upd (upd (upd (mp (upd (upd (m 199) 19 (nI T)) 5 0) (m 199 6) a' b t) 6 (m 199 6)) 7 1) 9 0 := by rw [e2, setR_n _ _ (by decide), setR_s]
        have f204 : m2 204 = cpA (rdM B T P (m 209)).2 (m 204) := by rw [e2, setR_s]
        have f33 : m2 33 = m1 33 := f1 33 (by decide) (by decide) (by decide)
        have st : snap N' (getP m2 33) (m2 204) := snap_x g7 (fun j hj => f1 (33 + j) (by omega) (by omega) (by omega)) (fun j hj => by rw [f204]; exact cpA_j _ _ hj) sq
        refine ⟨cRow_x (fun o ho => f2 o (by omega) (by omega) (by omega) (by omega) (by omega) (by omega)) c1, ?_, ?_, ⟨0, B, (rdC B T P (getP m 39)).1.2.1, ⟨by omega, fun k hk => by omega⟩, ⟨by omega, fun k hk => by omega⟩, ?_, ?_, ?_⟩, ⟨N', X, 0, g7, st.1, st.2.1, ?_, fun g => ?_, hX, by omega, ?_, ?_, ?_, fun i hi => by omega⟩, ?_, cTr_x (fun o ho => f2 o (by omega) (by omega) (by omega) (by omega) (by omega) (by omega)) ?_ c7⟩
        · unfold cSt
          rw [f2 0 (by decide) (by decide) (by omega) (by decide) (by decide) (by decide), f199]
          exact c2
        · unfold cFl
          rw [f2 0 (by decide) (by decide) (by omega) (by decide) (by decide) (by decide), f199]
          exact c3
        · rw [f1 31 (by decide) (by decide) (by decide), e31]; exact F1
        · rw [f199]; rfl
        · rw [f1 31 (by decide) (by decide) (by decide), e31]; exact F3
        · have e33 : m2 33 5 = 1 := st.2.2
          rw [e33, f199]; rfl
        · have e33 : m2 33 5 = 1 := st.2.2
          rw [e33] at g; exact absurd g (by decide)
        · rw [f1 51 (by decide) (by decide) (by decide), e51 1 (by decide)]; exact a1
        · rw [f1 51 (by decide) (by decide) (by decide), e512]; rfl
        · rw [f199]; rfl
        · intro k' hk'
          obtain ⟨j1, j2, j3⟩ := c6 k' hk'
          rw [f2 (19 + 6 * k') (by omega) (by omega) (by omega) (by omega) (by omega) (by omega), f2 207 (by omega) (by omega) (by omega) (by omega) (by omega) (by omega)]
          refine ⟨j1, j2, fun g => ?_⟩
          obtain ⟨j4, N2, j5, j6⟩ := j3 g
          exact ⟨st.2.2, N2, j5, snap_x j5 (fun j hj => getP_x (fun o h1 h2 => f2 o (by omega) (by omega) (by omega) (by omega) (by omega) (by omega)) hj) (fun j hj => by rw [f2 206 (by omega) (by omega) (by omega) (by omega) (by omega) (by omega)]) j6⟩
        · rw [f199]; rfl
      exact fin2 _ rfl
    rw [F2]
    exact ⟨H0, fin _ _ _ rfl rfl rfl rfl⟩
  · rw [rl1, if_neg hz0]
    simp only [xX5_plain_0, xX5_plain_1, xX5_plain_4, xX5_plain_5, xX5_plain_8, xX5_plain_11, xX5_plain_12, xX5_plain_13, xX5_plain_16, xX5_plain_17, xX5_plain_20, xX5_plain_21, xX5_plain_24, xX5_plain_25, xX5_plain_26, xX5_plain_29, xX5_plain_32, xX5_plain_35, xX5_plain_37, xX5_plain_38, xX5_plain_41, xX5_plain_44, xX5_plain_45, xX5_plain_46, xX5_plain_47, xX5_plain_50, xX5_plain_51, xX5_plain_54, xX5_plain_57, xX5_plain_58, xX5_plain_61, xX5_plain_64, xX5_plain_65, xX5_plain_68, xX5_plain_71, Bool.false_eq_true, if_true, if_false, kl_i, kl_a, kl_s, kl_u, kl_l, okS_nil, okS_cons, cat_i, cat_a, cat_s, cat_l, Nat.reduceAdd, Nat.reduceLeDiff, Nat.reduceSub, Nat.sub_zero, Nat.sub_self, Nat.zero_add, Nat.le_refl, Nat.zero_le, List.length_cons, List.length_nil, true_and, and_true, true_or, or_true, eq_self, forall_const, true_implies, not_true_eq_false, not_false_eq_true, false_implies, implies_true, false_and, and_false, false_or, or_false, H0, F0, F1, F2, F3, F4, F5, F6, F7, P33.1, P39.1, P45.1, hT.1, upM_setR, setR_setR, s31, up1, tp_2, tp_3]
    have fin : ∀ (F : Nat → Int32) (M m1 : Mm), F 1 = 0 → F 3 = nI (rdC B T P (getP m 39)).1.2.1 → M = setR (putP m 39 (rdC B T P (getP m 39)).2) 31 F → m1 = setR M 0 (upd (M 0) 8 (nI (rdM B T P (m 209)).1.1)) → CT K 12 YX6_plain [.ref 199] σ m1 l (fun r' σ2 m2 l2 => σ2 = σ ∧ r' = -1000100 - nI (rdM B T P (m 209)).1.2.1 ∧ RR m2) := by
      intro F M m1 F1 F3 eM em
      have eo : ∀ o, o ≠ 31 → o ≠ 0 → ¬ (39 ≤ o ∧ o < 45) → m1 o = m o := fun o o1 o2 o3 => by
        rw [em, setR_n _ _ o2, eM]
        exact eT F o o1 o3 _
      have e31 : m1 31 = F := by rw [em, setR_n _ _ (by decide), eM, s31]
      have e0 : m1 0 = upd (m 0) 8 (nI (rdM B T P (m 209)).1.1) := by
        rw [em, setR_s, eM]
        rw [eT F 0 (by decide) (by omega) _]
      refine mod m1 _ (eo 199 (by decide) (by decide) (by omega)) (eo 203 (by decide) (by decide) (by omega)) (eo 209 (by decide) (by decide) (by omega)) (eo 204 (by decide) (by decide) (by omega)) (fun g => absurd g hz0) (fun _ r' a' t w => ⟨rfl, rfl, ?_⟩)
      have fin2 : ∀ m2, m2 = setR (setR m1 209 r') 199 (mp (upd (upd (m 199) 19 (nI T)) 5 0) (nI (rdM B T P (m 209)).1.1) a' (nI (rdM B T P (m 209)).1.2.1) t) → RR m2 := by
        intro m2 e2
        have f1 : ∀ o, o ≠ 209 → o ≠ 199 → m2 o = m1 o := fun o o1 o2 => by rw [e2, setR_n _ _ o2, setR_n _ _ o1]
        have f2 : ∀ o, o ≠ 31 → o ≠ 0 → ¬ (39 ≤ o ∧ o < 45) → o ≠ 209 → o ≠ 199 → m2 o = m o := fun o o1 o2 o3 o4 o5 => (f1 o o4 o5).trans (eo o o1 o2 o3)
        have f199 : m2 199 = mp (upd (upd (m 199) 19 (nI T)) 5 0) (nI (rdM B T P (m 209)).1.1) a' (nI (rdM B T P (m 209)).1.2.1) t := by rw [e2, setR_s]
        refine ⟨cRow_x (fun o ho => f2 o (by omega) (by omega) (by omega) (by omega) (by omega)) c1, ?_, ?_, ⟨0, B, (rdC B T P (getP m 39)).1.2.1, ⟨by omega, fun k hk => by omega⟩, ⟨by omega, fun k hk => by omega⟩, ?_, ?_, ?_⟩, cPl_x (fun o ho => f2 o (by omega) (by omega) (by omega) (by omega) (by omega)) ?_ ?_ ⟨N, X, A, h7, hn, hb, ht, hz, hX, hA, a1, a2, a3, ha⟩, cIm_x (fun o ho => f2 o (by omega) (by omega) (by omega) (by omega) (by omega)) c6, cTr_x (fun o ho => f2 o (by omega) (by omega) (by omega) (by omega) (by omega)) ?_ c7⟩
        · unfold cSt
          rw [f1 0 (by decide) (by decide), e0, f199, upd_n _ _ (by decide)]
          exact c2
        · unfold cFl
          rw [f1 0 (by decide) (by decide), e0, f199, upd_s]
          rfl
        · rw [f1 31 (by decide) (by decide), e31]; exact F1
        · rw [f199]; rfl
        · rw [f1 31 (by decide) (by decide), e31]; exact F3
        · rw [f199]; rfl
        · rw [f199]; rfl
        · rw [f199]; rfl
      exact fin2 _ rfl
    have ep := rl2 hz0
    have g := fin (tp (upd (m 31) 1 0) (nI (rdM B T P (m 209)).1.1) (nI (rdC B T P (getP m 39)).1.2.1) (nI (rdC B T P (getP m 39)).1.2.2) x y z) _ _ rfl rfl rfl rfl
    rw [ep] at g ⊢
    exact g
