/-! calls that foretell: rest -/
theorem l_rm0 {K : Cx} {d : Nat} {σ : Sg} {m0 : Mm} {l : Ml} {N : Nat} {Q : Rt} (hm : wfM σ) (h7 : N ≤ 7) (h2 : m0 204 2 = nI N) : ∀ (k v : Nat) (m : Mm) (e3 : Value), v + k = 61 → scM m0 m → m 210 2 = nI N → (∀ w, w < N → m 211 w = m 210 (26 + w)) → (∀ m', scM m0 m' → Q (rsM N k v (m 210)) σ m' l) → WX (tX6_rest K (d + 3)) Q (33, [.ref 199, .int 0, .int (nI (v + 1)), e3], [], (0, 0), σ, m, l) := by
  have hm0 := hm
  obtain ⟨M0, R0, R1, R2, R4, R8, R10, R11, R12, R14, R20, R21, R22, A200, L200, A201, L201, A202, L202, A203, L203, A204, L204, A205, L205, A206, L206, A207, L207, A208, L208, A209, L209, A210, L210, A211, L211⟩ := hm
  intro k
  induction k with
  | zero =>
    intro v m e3 hv hs hN hf hQ
    have c1 : ((61 : Int32) < nI (v + 1)) = True := (ltN (a := 61) (b := v + 1) (by omega) (by omega)).trans (eq_true (by omega))
    rw [xX6_rest_33]
    simp only [xX6_rest_34, xX6_rest_36, xX6_rest_39, xX6_rest_40, xX6_rest_43, xX6_rest_44, xX6_rest_47, xX6_rest_48, xX6_rest_49, xX6_rest_52, xX6_rest_55, xX6_rest_56, xX6_rest_58, xX6_rest_59, xX6_rest_60, xX6_rest_63, xX6_rest_64, xX6_rest_67, xX6_rest_68, xX6_rest_69, xX6_rest_70, xX6_rest_73, xX6_rest_74, xX6_rest_75, xX6_rest_76, xX6_rest_79, xX6_rest_80, xX6_rest_83, xX6_rest_86, xX6_rest_89, xX6_rest_91, Bool.false_eq_true, if_true, if_false, kl_i, kl_a, kl_s, kl_u, kl_l, okS_nil, okS_cons, cat_i, cat_a, cat_s, cat_l, Nat.reduceAdd, Nat.reduceLeDiff, Nat.reduceSub, Nat.sub_zero, Nat.sub_self, Nat.zero_add, Nat.le_refl, Nat.zero_le, List.length_cons, List.length_nil, true_and, and_true, true_or, or_true, eq_self, forall_const, true_implies, not_true_eq_false, not_false_eq_true, false_implies, implies_true, false_and, and_false, false_or, or_false, c1]
    exact hQ _ hs
  | succ k ih =>
    intro v m e3 hv hs hN hf hQ
    have c1 : ((61 : Int32) < nI (v + 1)) = False := (ltN (a := 61) (b := v + 1) (by omega) (by omega)).trans (eq_false (by omega))
    rw [xX6_rest_33]
    simp only [xX6_rest_34, xX6_rest_36, xX6_rest_39, xX6_rest_40, xX6_rest_43, xX6_rest_44, xX6_rest_47, xX6_rest_48, xX6_rest_49, xX6_rest_52, xX6_rest_55, xX6_rest_56, xX6_rest_58, xX6_rest_59, xX6_rest_60, xX6_rest_63, xX6_rest_64, xX6_rest_67, xX6_rest_68, xX6_rest_69, xX6_rest_70, xX6_rest_73, xX6_rest_74, xX6_rest_75, xX6_rest_76, xX6_rest_79, xX6_rest_80, xX6_rest_83, xX6_rest_86, xX6_rest_89, xX6_rest_91, Bool.false_eq_true, if_true, if_false, kl_i, kl_a, kl_s, kl_u, kl_l, okS_nil, okS_cons, cat_i, cat_a, cat_s, cat_l, Nat.reduceAdd, Nat.reduceLeDiff, Nat.reduceSub, Nat.sub_zero, Nat.sub_self, Nat.zero_add, Nat.le_refl, Nat.zero_le, List.length_cons, List.length_nil, true_and, and_true, true_or, or_true, eq_self, forall_const, true_implies, not_true_eq_false, not_false_eq_true, false_implies, implies_true, false_and, and_false, false_or, or_false, c1, M0, R21]
    refine t_goes2 ⟨A210, L210⟩ hN h7 ?_
    simp only [xX6_rest_34, xX6_rest_36, xX6_rest_39, xX6_rest_40, xX6_rest_43, xX6_rest_44, xX6_rest_47, xX6_rest_48, xX6_rest_49, xX6_rest_52, xX6_rest_55, xX6_rest_56, xX6_rest_58, xX6_rest_59, xX6_rest_60, xX6_rest_63, xX6_rest_64, xX6_rest_67, xX6_rest_68, xX6_rest_69, xX6_rest_70, xX6_rest_73, xX6_rest_74, xX6_rest_75, xX6_rest_76, xX6_rest_79, xX6_rest_80, xX6_rest_83, xX6_rest_86, xX6_rest_89, xX6_rest_91, Bool.false_eq_true, if_true, if_false, kl_i, kl_a, kl_s, kl_u, kl_l, okS_nil, okS_cons, cat_i, cat_a, cat_s, cat_l, Nat.reduceAdd, Nat.reduceLeDiff, Nat.reduceSub, Nat.sub_zero, Nat.sub_self, Nat.zero_add, Nat.le_refl, Nat.zero_le, List.length_cons, List.length_nil, true_and, and_true, true_or, or_true, eq_self, forall_const, true_implies, not_true_eq_false, not_false_eq_true, false_implies, implies_true, false_and, and_false, false_or, or_false, M0, R21]
    have s1 := scM_210 (goQ N (m 210) 0) hs
    refine t_isAsNow hm0 h7 (by rw [s1 204 (by omega)]; exact h2) ?_
    have es : sameF (fun v_1 => setR m 210 (goQ N (m 210) 0) 210 (26 + v_1)) (setR m 210 (goQ N (m 210) 0) 211) 0 N = sameF (fun v => goQ N (m 210) 0 (26 + v)) (fun v => m 210 (26 + v)) 0 N := by
      refine sameF_c N 0 (fun w _ hw => ⟨?_, ?_⟩)
      · rw [setR_s]
      · rw [setR_n _ _ (by decide)]; exact hf w (by omega)
    rw [es]
    simp only [rsM] at hQ
    have ev : nI (v + 1) - 1 = nI v := nI_pred v
    have c2 : ((61 : Int32) - 0 < nI (v + 1)) = False := by rw [show (61 : Int32) - 0 = 61 by decide]; exact c1
    cases h : sameF (fun v => goQ N (m 210) 0 (26 + v)) (fun v => m 210 (26 + v)) 0 N
    · simp only [h, xX6_rest_34, xX6_rest_36, xX6_rest_39, xX6_rest_40, xX6_rest_43, xX6_rest_44, xX6_rest_47, xX6_rest_48, xX6_rest_49, xX6_rest_52, xX6_rest_55, xX6_rest_56, xX6_rest_58, xX6_rest_59, xX6_rest_60, xX6_rest_63, xX6_rest_64, xX6_rest_67, xX6_rest_68, xX6_rest_69, xX6_rest_70, xX6_rest_73, xX6_rest_74, xX6_rest_75, xX6_rest_76, xX6_rest_79, xX6_rest_80, xX6_rest_83, xX6_rest_86, xX6_rest_89, xX6_rest_91, Bool.false_eq_true, if_true, if_false, kl_i, kl_a, kl_s, kl_u, kl_l, okS_nil, okS_cons, cat_i, cat_a, cat_s, cat_l, Nat.reduceAdd, Nat.reduceLeDiff, Nat.reduceSub, Nat.sub_zero, Nat.sub_self, Nat.zero_add, Nat.le_refl, Nat.zero_le, List.length_cons, List.length_nil, true_and, and_true, true_or, or_true, eq_self, forall_const, true_implies, not_true_eq_false, not_false_eq_true, false_implies, implies_true, false_and, and_false, false_or, or_false, M0] at hQ ⊢
      refine t_notes hm0 h7 (by rw [s1 204 (by omega)]; exact h2) ?_
      simp only [xX6_rest_34, xX6_rest_36, xX6_rest_39, xX6_rest_40, xX6_rest_43, xX6_rest_44, xX6_rest_47, xX6_rest_48, xX6_rest_49, xX6_rest_52, xX6_rest_55, xX6_rest_56, xX6_rest_58, xX6_rest_59, xX6_rest_60, xX6_rest_63, xX6_rest_64, xX6_rest_67, xX6_rest_68, xX6_rest_69, xX6_rest_70, xX6_rest_73, xX6_rest_74, xX6_rest_75, xX6_rest_76, xX6_rest_79, xX6_rest_80, xX6_rest_83, xX6_rest_86, xX6_rest_89, xX6_rest_91, Bool.false_eq_true, if_true, if_false, kl_i, kl_a, kl_s, kl_u, kl_l, okS_nil, okS_cons, cat_i, cat_a, cat_s, cat_l, Nat.reduceAdd, Nat.reduceLeDiff, Nat.reduceSub, Nat.sub_zero, Nat.sub_self, Nat.zero_add, Nat.le_refl, Nat.zero_le, List.length_cons, List.length_nil, true_and, and_true, true_or, or_true, eq_self, forall_const, true_implies, not_true_eq_false, not_false_eq_true, false_implies, implies_true, false_and, and_false, false_or, or_false, nI1]
      refine ih (v + 1) _ _ (by omega) (scM_211 _ s1) ?_ (fun w hw => ?_) ?_
      · rw [setR_n _ _ (by decide), setR_s, goQ_2 N h7]; exact hN
      · rw [setR_s, setR_n _ _ (by decide : (210 : Nat) ≠ 211), setR_s]
        unfold ntF
        rw [if_pos hw]
      · rw [setR_n _ _ (by decide), setR_s]; exact hQ
    · simp only [h, xX6_rest_34, xX6_rest_36, xX6_rest_39, xX6_rest_40, xX6_rest_43, xX6_rest_44, xX6_rest_47, xX6_rest_48, xX6_rest_49, xX6_rest_52, xX6_rest_55, xX6_rest_56, xX6_rest_58, xX6_rest_59, xX6_rest_60, xX6_rest_63, xX6_rest_64, xX6_rest_67, xX6_rest_68, xX6_rest_69, xX6_rest_70, xX6_rest_73, xX6_rest_74, xX6_rest_75, xX6_rest_76, xX6_rest_79, xX6_rest_80, xX6_rest_83, xX6_rest_86, xX6_rest_89, xX6_rest_91, Bool.false_eq_true, if_true, if_false, kl_i, kl_a, kl_s, kl_u, kl_l, okS_nil, okS_cons, cat_i, cat_a, cat_s, cat_l, Nat.reduceAdd, Nat.reduceLeDiff, Nat.reduceSub, Nat.sub_zero, Nat.sub_self, Nat.zero_add, Nat.le_refl, Nat.zero_le, List.length_cons, List.length_nil, true_and, and_true, true_or, or_true, eq_self, forall_const, true_implies, not_true_eq_false, not_false_eq_true, false_implies, implies_true, false_and, and_false, false_or, or_false, i10, c2, ev] at hQ ⊢
      exact hQ _ s1
theorem l_rm1 {K : Cx} {d : Nat} {σ : Sg} {m0 : Mm} {l : Ml} {N : Nat} {f0 : Nat → Int32} {Q : Rt} (hm : wfM σ) (h7 : N ≤ 7) (h2 : m0 204 2 = nI N) : ∀ (k v : Nat) (m : Mm) (e3 : Value), v + k = 61 → scM m0 m → m 210 2 = nI N → (∀ w, w < N → m 211 w = f0 w) → (∀ m', scM m0 m' → Q (rtM N f0 k v (m 210)) σ m' l) → WX (tX6_rest K (d + 3)) Q (33, [.ref 199, .int 1, .int (nI v), e3], [], (0, 0), σ, m, l) := by
  have hm0 := hm
  obtain ⟨M0, R0, R1, R2, R4, R8, R10, R11, R12, R14, R20, R21, R22, A200, L200, A201, L201, A202, L202, A203, L203, A204, L204, A205, L205, A206, L206, A207, L207, A208, L208, A209, L209, A210, L210, A211, L211⟩ := hm
  intro k
  induction k with
  | zero =>
    intro v m e3 hv hs hN hf hQ
    have e : v = 61 := by omega
    subst e
    have c1 : ((61 : Int32) < nI 61) = False := eq_false (by decide)
    have c2 : ((61 : Int32) - 1 < nI 61) = True := eq_true (by decide)
    have c3 : ((61 : Int32) < nI (61 + 1)) = True := eq_true (by decide)
    rw [xX6_rest_33]
    simp only [xX6_rest_34, xX6_rest_36, xX6_rest_39, xX6_rest_40, xX6_rest_43, xX6_rest_44, xX6_rest_47, xX6_rest_48, xX6_rest_49, xX6_rest_52, xX6_rest_55, xX6_rest_56, xX6_rest_58, xX6_rest_59, xX6_rest_60, xX6_rest_63, xX6_rest_64, xX6_rest_67, xX6_rest_68, xX6_rest_69, xX6_rest_70, xX6_rest_73, xX6_rest_74, xX6_rest_75, xX6_rest_76, xX6_rest_79, xX6_rest_80, xX6_rest_83, xX6_rest_86, xX6_rest_89, xX6_rest_91, Bool.false_eq_true, if_true, if_false, kl_i, kl_a, kl_s, kl_u, kl_l, okS_nil, okS_cons, cat_i, cat_a, cat_s, cat_l, Nat.reduceAdd, Nat.reduceLeDiff, Nat.reduceSub, Nat.sub_zero, Nat.sub_self, Nat.zero_add, Nat.le_refl, Nat.zero_le, List.length_cons, List.length_nil, true_and, and_true, true_or, or_true, eq_self, forall_const, true_implies, not_true_eq_false, not_false_eq_true, false_implies, implies_true, false_and, and_false, false_or, or_false, c1, M0, R21]
    refine t_goes2 ⟨A210, L210⟩ hN h7 ?_
    simp only [xX6_rest_34, xX6_rest_36, xX6_rest_39, xX6_rest_40, xX6_rest_43, xX6_rest_44, xX6_rest_47, xX6_rest_48, xX6_rest_49, xX6_rest_52, xX6_rest_55, xX6_rest_56, xX6_rest_58, xX6_rest_59, xX6_rest_60, xX6_rest_63, xX6_rest_64, xX6_rest_67, xX6_rest_68, xX6_rest_69, xX6_rest_70, xX6_rest_73, xX6_rest_74, xX6_rest_75, xX6_rest_76, xX6_rest_79, xX6_rest_80, xX6_rest_83, xX6_rest_86, xX6_rest_89, xX6_rest_91, Bool.false_eq_true, if_true, if_false, kl_i, kl_a, kl_s, kl_u, kl_l, okS_nil, okS_cons, cat_i, cat_a, cat_s, cat_l, Nat.reduceAdd, Nat.reduceLeDiff, Nat.reduceSub, Nat.sub_zero, Nat.sub_self, Nat.zero_add, Nat.le_refl, Nat.zero_le, List.length_cons, List.length_nil, true_and, and_true, true_or, or_true, eq_self, forall_const, true_implies, not_true_eq_false, not_false_eq_true, false_implies, implies_true, false_and, and_false, false_or, or_false, M0, R21]
    have s1 := scM_210 (goQ N (m 210) 0) hs
    refine t_isAsNow hm0 h7 (by rw [s1 204 (by omega)]; exact h2) ?_
    have tail : WX (tX6_rest K (d + 3)) Q (33, [.ref 199, .int 1, .int (nI (61 + 1)), .int (goS N (m 210) 0)], [], (0, 0), σ, setR m 210 (goQ N (m 210) 0), l) := by
      rw [xX6_rest_33]
      simp only [xX6_rest_34, xX6_rest_36, xX6_rest_39, xX6_rest_40, xX6_rest_43, xX6_rest_44, xX6_rest_47, xX6_rest_48, xX6_rest_49, xX6_rest_52, xX6_rest_55, xX6_rest_56, xX6_rest_58, xX6_rest_59, xX6_rest_60, xX6_rest_63, xX6_rest_64, xX6_rest_67, xX6_rest_68, xX6_rest_69, xX6_rest_70, xX6_rest_73, xX6_rest_74, xX6_rest_75, xX6_rest_76, xX6_rest_79, xX6_rest_80, xX6_rest_83, xX6_rest_86, xX6_rest_89, xX6_rest_91, Bool.false_eq_true, if_true, if_false, kl_i, kl_a, kl_s, kl_u, kl_l, okS_nil, okS_cons, cat_i, cat_a, cat_s, cat_l, Nat.reduceAdd, Nat.reduceLeDiff, Nat.reduceSub, Nat.sub_zero, Nat.sub_self, Nat.zero_add, Nat.le_refl, Nat.zero_le, List.length_cons, List.length_nil, true_and, and_true, true_or, or_true, eq_self, forall_const, true_implies, not_true_eq_false, not_false_eq_true, false_implies, implies_true, false_and, and_false, false_or, or_false, c3]
      exact hQ _ s1
    cases h : sameF (fun v_1 => setR m 210 (goQ N (m 210) 0) 210 (26 + v_1)) (setR m 210 (goQ N (m 210) 0) 211) 0 N
    · simp only [xX6_rest_34, xX6_rest_36, xX6_rest_39, xX6_rest_40, xX6_rest_43, xX6_rest_44, xX6_rest_47, xX6_rest_48, xX6_rest_49, xX6_rest_52, xX6_rest_55, xX6_rest_56, xX6_rest_58, xX6_rest_59, xX6_rest_60, xX6_rest_63, xX6_rest_64, xX6_rest_67, xX6_rest_68, xX6_rest_69, xX6_rest_70, xX6_rest_73, xX6_rest_74, xX6_rest_75, xX6_rest_76, xX6_rest_79, xX6_rest_80, xX6_rest_83, xX6_rest_86, xX6_rest_89, xX6_rest_91, Bool.false_eq_true, if_true, if_false, kl_i, kl_a, kl_s, kl_u, kl_l, okS_nil, okS_cons, cat_i, cat_a, cat_s, cat_l, Nat.reduceAdd, Nat.reduceLeDiff, Nat.reduceSub, Nat.sub_zero, Nat.sub_self, Nat.zero_add, Nat.le_refl, Nat.zero_le, List.length_cons, List.length_nil, true_and, and_true, true_or, or_true, eq_self, forall_const, true_implies, not_true_eq_false, not_false_eq_true, false_implies, implies_true, false_and, and_false, false_or, or_false, i10, nI1]
      exact tail
    · simp only [xX6_rest_34, xX6_rest_36, xX6_rest_39, xX6_rest_40, xX6_rest_43, xX6_rest_44, xX6_rest_47, xX6_rest_48, xX6_rest_49, xX6_rest_52, xX6_rest_55, xX6_rest_56, xX6_rest_58, xX6_rest_59, xX6_rest_60, xX6_rest_63, xX6_rest_64, xX6_rest_67, xX6_rest_68, xX6_rest_69, xX6_rest_70, xX6_rest_73, xX6_rest_74, xX6_rest_75, xX6_rest_76, xX6_rest_79, xX6_rest_80, xX6_rest_83, xX6_rest_86, xX6_rest_89, xX6_rest_91, Bool.false_eq_true, if_true, if_false, kl_i, kl_a, kl_s, kl_u, kl_l, okS_nil, okS_cons, cat_i, cat_a, cat_s, cat_l, Nat.reduceAdd, Nat.reduceLeDiff, Nat.reduceSub, Nat.sub_zero, Nat.sub_self, Nat.zero_add, Nat.le_refl, Nat.zero_le, List.length_cons, List.length_nil, true_and, and_true, true_or, or_true, eq_self, forall_const, true_implies, not_true_eq_false, not_false_eq_true, false_implies, implies_true, false_and, and_false, false_or, or_false, i10, c2, nI1]
      exact tail
  | succ k ih =>
    intro v m e3 hv hs hN hf hQ
    have c1 : ((61 : Int32) < nI v) = False := (ltN (a := 61) (b := v) (by omega) (by omega)).trans (eq_false (by omega))
    have c2 : ((61 : Int32) - 1 < nI v) = False := by rw [show (61 : Int32) - 1 = 60 by decide]; exact (ltN (a := 60) (b := v) (by omega) (by omega)).trans (eq_false (by omega))
    rw [xX6_rest_33]
    simp only [xX6_rest_34, xX6_rest_36, xX6_rest_39, xX6_rest_40, xX6_rest_43, xX6_rest_44, xX6_rest_47, xX6_rest_48, xX6_rest_49, xX6_rest_52, xX6_rest_55, xX6_rest_56, xX6_rest_58, xX6_rest_59, xX6_rest_60, xX6_rest_63, xX6_rest_64, xX6_rest_67, xX6_rest_68, xX6_rest_69, xX6_rest_70, xX6_rest_73, xX6_rest_74, xX6_rest_75, xX6_rest_76, xX6_rest_79, xX6_rest_80, xX6_rest_83, xX6_rest_86, xX6_rest_89, xX6_rest_91, Bool.false_eq_true, if_true, if_false, kl_i, kl_a, kl_s, kl_u, kl_l, okS_nil, okS_cons, cat_i, cat_a, cat_s, cat_l, Nat.reduceAdd, Nat.reduceLeDiff, Nat.reduceSub, Nat.sub_zero, Nat.sub_self, Nat.zero_add, Nat.le_refl, Nat.zero_le, List.length_cons, List.length_nil, true_and, and_true, true_or, or_true, eq_self, forall_const, true_implies, not_true_eq_false, not_false_eq_true, false_implies, implies_true, false_and, and_false, false_or, or_false, c1, M0, R21]
    refine t_goes2 ⟨A210, L210⟩ hN h7 ?_
    simp only [xX6_rest_34, xX6_rest_36, xX6_rest_39, xX6_rest_40, xX6_rest_43, xX6_rest_44, xX6_rest_47, xX6_rest_48, xX6_rest_49, xX6_rest_52, xX6_rest_55, xX6_rest_56, xX6_rest_58, xX6_rest_59, xX6_rest_60, xX6_rest_63, xX6_rest_64, xX6_rest_67, xX6_rest_68, xX6_rest_69, xX6_rest_70, xX6_rest_73, xX6_rest_74, xX6_rest_75, xX6_rest_76, xX6_rest_79, xX6_rest_80, xX6_rest_83, xX6_rest_86, xX6_rest_89, xX6_rest_91, Bool.false_eq_true, if_true, if_false, kl_i, kl_a, kl_s, kl_u, kl_l, okS_nil, okS_cons, cat_i, cat_a, cat_s, cat_l, Nat.reduceAdd, Nat.reduceLeDiff, Nat.reduceSub, Nat.sub_zero, Nat.sub_self, Nat.zero_add, Nat.le_refl, Nat.zero_le, List.length_cons, List.length_nil, true_and, and_true, true_or, or_true, eq_self, forall_const, true_implies, not_true_eq_false, not_false_eq_true, false_implies, implies_true, false_and, and_false, false_or, or_false, M0, R21]
    have s1 := scM_210 (goQ N (m 210) 0) hs
    refine t_isAsNow hm0 h7 (by rw [s1 204 (by omega)]; exact h2) ?_
    have es : sameF (fun v_1 => setR m 210 (goQ N (m 210) 0) 210 (26 + v_1)) (setR m 210 (goQ N (m 210) 0) 211) 0 N = sameF (fun v => goQ N (m 210) 0 (26 + v)) f0 0 N := by
      refine sameF_c N 0 (fun w _ hw => ⟨?_, ?_⟩)
      · rw [setR_s]
      · rw [setR_n _ _ (by decide)]; exact hf w (by omega)
    rw [es]
    simp only [rtM] at hQ
    cases h : sameF (fun v => goQ N (m 210) 0 (26 + v)) f0 0 N
    · simp only [h, xX6_rest_34, xX6_rest_36, xX6_rest_39, xX6_rest_40, xX6_rest_43, xX6_rest_44, xX6_rest_47, xX6_rest_48, xX6_rest_49, xX6_rest_52, xX6_rest_55, xX6_rest_56, xX6_rest_58, xX6_rest_59, xX6_rest_60, xX6_rest_63, xX6_rest_64, xX6_rest_67, xX6_rest_68, xX6_rest_69, xX6_rest_70, xX6_rest_73, xX6_rest_74, xX6_rest_75, xX6_rest_76, xX6_rest_79, xX6_rest_80, xX6_rest_83, xX6_rest_86, xX6_rest_89, xX6_rest_91, Bool.false_eq_true, if_true, if_false, kl_i, kl_a, kl_s, kl_u, kl_l, okS_nil, okS_cons, cat_i, cat_a, cat_s, cat_l, Nat.reduceAdd, Nat.reduceLeDiff, Nat.reduceSub, Nat.sub_zero, Nat.sub_self, Nat.zero_add, Nat.le_refl, Nat.zero_le, List.length_cons, List.length_nil, true_and, and_true, true_or, or_true, eq_self, forall_const, true_implies, not_true_eq_false, not_false_eq_true, false_implies, implies_true, false_and, and_false, false_or, or_false, M0, i10, nI1] at hQ ⊢
      refine ih (v + 1) _ _ (by omega) s1 ?_ (fun w hw => ?_) ?_
      · rw [setR_s, goQ_2 N h7]; exact hN
      · rw [setR_n _ _ (by decide)]; exact hf w hw
      · rw [setR_s]; exact hQ
    · simp only [h, xX6_rest_34, xX6_rest_36, xX6_rest_39, xX6_rest_40, xX6_rest_43, xX6_rest_44, xX6_rest_47, xX6_rest_48, xX6_rest_49, xX6_rest_52, xX6_rest_55, xX6_rest_56, xX6_rest_58, xX6_rest_59, xX6_rest_60, xX6_rest_63, xX6_rest_64, xX6_rest_67, xX6_rest_68, xX6_rest_69, xX6_rest_70, xX6_rest_73, xX6_rest_74, xX6_rest_75, xX6_rest_76, xX6_rest_79, xX6_rest_80, xX6_rest_83, xX6_rest_86, xX6_rest_89, xX6_rest_91, Bool.false_eq_true, if_true, if_false, kl_i, kl_a, kl_s, kl_u, kl_l, okS_nil, okS_cons, cat_i, cat_a, cat_s, cat_l, Nat.reduceAdd, Nat.reduceLeDiff, Nat.reduceSub, Nat.sub_zero, Nat.sub_self, Nat.zero_add, Nat.le_refl, Nat.zero_le, List.length_cons, List.length_nil, true_and, and_true, true_or, or_true, eq_self, forall_const, true_implies, not_true_eq_false, not_false_eq_true, false_implies, implies_true, false_and, and_false, false_or, or_false, i10, c2] at hQ ⊢
      exact hQ _ s1
theorem p_rest {K : Cx} {σ : Sg} (hw : WF σ) (x : Int32) : PAIR K σ YX5_rest YX6_rest [.int x] := by
  intro m l h
  obtain ⟨wN, wR, wT, wA, wL, wM, wI⟩ := hw
  have hM := wM
  have hN := wN
  obtain ⟨H0, F0, F1, F2, F3, F4, F5, F6, F7, P33, P39, P45⟩ := wN
  obtain ⟨M0, R0, R1, R2, R4, R8, R10, R11, R12, R14, R20, R21, R22, A200, L200, A201, L201, A202, L202, A203, L203, A204, L204, A205, L205, A206, L206, A207, L207, A208, L208, A209, L209, A210, L210, A211, L211⟩ := wM
  obtain ⟨N, X, A, h7, hn, hb, ht, hz, hX, hA, a1, a2, a3, ha⟩ := h.2.2.2.2.1
  have modb : ∀ r, ((m 199 7 = 0 ∧ r = -1000002) ∨ (m 199 7 ≠ 0 ∧ ¬ (¬ x < 0 ∧ ¬ 1 < x) ∧ r = -1000001)) → CT K 12 YX6_rest [.ref 199, .int x] σ m l (fun r' σ2 m2 l2 => σ2 = σ ∧ r' = r ∧ RR m2) := by
    intro r hr
    refine kX6_rest ?_
    simp only [xX6_rest_0, xX6_rest_1, xX6_rest_4, xX6_rest_7, xX6_rest_9, xX6_rest_10, xX6_rest_11, xX6_rest_12, xX6_rest_13, xX6_rest_14, xX6_rest_17, xX6_rest_20, xX6_rest_22, xX6_rest_23, xX6_rest_24, xX6_rest_27, xX6_rest_28, xX6_rest_31, xX6_rest_32, Bool.false_eq_true, if_true, if_false, kl_i, kl_a, kl_s, kl_u, kl_l, okS_nil, okS_cons, cat_i, cat_a, cat_s, cat_l, Nat.reduceAdd, Nat.reduceLeDiff, Nat.reduceSub, Nat.sub_zero, Nat.sub_self, Nat.zero_add, Nat.le_refl, Nat.zero_le, List.length_cons, List.length_nil, true_and, and_true, true_or, or_true, eq_self, forall_const, true_implies, not_true_eq_false, not_false_eq_true, false_implies, implies_true, false_and, and_false, false_or, or_false, M0]
    rcases hr with ⟨g1, g2⟩ | ⟨g1, g2, g3⟩
    · exact ⟨fun _ => ⟨g2.symm, h⟩, fun g => absurd g1 g⟩
    · refine ⟨fun g => absurd g g1, fun _ => ?_⟩
      refine t_inI (a := 0) (b := 1) (by decide) (by decide) ?_
      rw [if_neg g2]
      simp only [xX6_rest_0, xX6_rest_1, xX6_rest_4, xX6_rest_7, xX6_rest_9, xX6_rest_10, xX6_rest_11, xX6_rest_12, xX6_rest_13, xX6_rest_14, xX6_rest_17, xX6_rest_20, xX6_rest_22, xX6_rest_23, xX6_rest_24, xX6_rest_27, xX6_rest_28, xX6_rest_31, xX6_rest_32, Bool.false_eq_true, if_true, if_false, kl_i, kl_a, kl_s, kl_u, kl_l, okS_nil, okS_cons, cat_i, cat_a, cat_s, cat_l, Nat.reduceAdd, Nat.reduceLeDiff, Nat.reduceSub, Nat.sub_zero, Nat.sub_self, Nat.zero_add, Nat.le_refl, Nat.zero_le, List.length_cons, List.length_nil, true_and, and_true, true_or, or_true, eq_self, forall_const, true_implies, not_true_eq_false, not_false_eq_true, false_implies, implies_true, false_and, and_false, false_or, or_false, M0]
      exact ⟨g3.symm, h⟩
  refine kX5_rest ?_
  simp only [xX5_rest_0, xX5_rest_1, xX5_rest_4, xX5_rest_7, xX5_rest_10, xX5_rest_12, xX5_rest_13, xX5_rest_14, xX5_rest_17, xX5_rest_18, xX5_rest_19, xX5_rest_22, xX5_rest_24, xX5_rest_25, xX5_rest_26, xX5_rest_29, xX5_rest_30, xX5_rest_33, xX5_rest_34, xX5_rest_37, xX5_rest_40, xX5_rest_41, xX5_rest_44, Bool.false_eq_true, if_true, if_false, kl_i, kl_a, kl_s, kl_u, kl_l, okS_nil, okS_cons, cat_i, cat_a, cat_s, cat_l, Nat.reduceAdd, Nat.reduceLeDiff, Nat.reduceSub, Nat.sub_zero, Nat.sub_self, Nat.zero_add, Nat.le_refl, Nat.zero_le, List.length_cons, List.length_nil, true_and, and_true, true_or, or_true, eq_self, forall_const, true_implies, not_true_eq_false, not_false_eq_true, false_implies, implies_true, false_and, and_false, false_or, or_false, H0, F0, F1, F2, F3, F4, F5, F6, F7, P33.1, P39.1, P45.1]
  rw [ht]
  refine ⟨fun g => modb _ (Or.inl ⟨g, rfl⟩), fun g0 => ?_⟩
  by_cases hx0 : x < 0
  · exact ⟨fun _ => modb _ (Or.inr ⟨g0, fun g => g.1 hx0, rfl⟩), fun g => absurd hx0 g⟩
  refine ⟨fun g => absurd g hx0, fun _ => ?_⟩
  by_cases hx1 : 1 < x
  · exact ⟨fun _ => modb _ (Or.inr ⟨g0, fun g => g.2 hx1, rfl⟩), fun g => absurd hx1 g⟩
  refine ⟨fun g => absurd g hx1, fun _ => ?_⟩
  obtain ⟨n, n1, n2, e⟩ := rng (a := 0) (b := 1) (by omega) (by omega) ⟨hx0, hx1⟩
  refine t_start hN h7 hn (scr_r m) (a' := cpA (m 204) (m 210)) (L := fun _ => False) (fun j hj => cpA_j _ _ (by omega)) (fun _ _ g => g.elim) (fun q ht2 => ?_)
  simp only [xX5_rest_0, xX5_rest_1, xX5_rest_4, xX5_rest_7, xX5_rest_10, xX5_rest_12, xX5_rest_13, xX5_rest_14, xX5_rest_17, xX5_rest_18, xX5_rest_19, xX5_rest_22, xX5_rest_24, xX5_rest_25, xX5_rest_26, xX5_rest_29, xX5_rest_30, xX5_rest_33, xX5_rest_34, xX5_rest_37, xX5_rest_40, xX5_rest_41, xX5_rest_44, Bool.false_eq_true, if_true, if_false, kl_i, kl_a, kl_s, kl_u, kl_l, okS_nil, okS_cons, cat_i, cat_a, cat_s, cat_l, Nat.reduceAdd, Nat.reduceLeDiff, Nat.reduceSub, Nat.sub_zero, Nat.sub_self, Nat.zero_add, Nat.le_refl, Nat.zero_le, List.length_cons, List.length_nil, true_and, and_true, true_or, or_true, eq_self, forall_const, true_implies, not_true_eq_false, not_false_eq_true, false_implies, implies_true, false_and, and_false, false_or, or_false, H0, F0, F1, F2, F3, F4, F5, F6, F7, P33.1, P39.1, P45.1]
  have mod : ∀ m1, scr m m1 → (r : Int32) → (x = 0 → rsM N 61 0 (cpA (m 204) (m 210)) = r) → (x = 1 → rtM N (fun v => m 204 (26 + v)) 60 1 (cpA (m 204) (m 210)) = r) → CT K 12 YX6_rest [.ref 199, .int x] σ m1 l (fun r' σ2 m2 l2 => σ2 = σ ∧ r' = r ∧ RR m2) := by
    intro m1 hs1 r q0 q1
    have e199 : m1 199 = m 199 := hs1 199 (by omega)
    have e204 : m1 204 = m 204 := hs1 204 (by omega)
    have e210 : m1 210 = m 210 := hs1 210 (by omega)
    refine kX6_rest ?_
    simp only [xX6_rest_0, xX6_rest_1, xX6_rest_4, xX6_rest_7, xX6_rest_9, xX6_rest_10, xX6_rest_11, xX6_rest_12, xX6_rest_13, xX6_rest_14, xX6_rest_17, xX6_rest_20, xX6_rest_22, xX6_rest_23, xX6_rest_24, xX6_rest_27, xX6_rest_28, xX6_rest_31, xX6_rest_32, Bool.false_eq_true, if_true, if_false, kl_i, kl_a, kl_s, kl_u, kl_l, okS_nil, okS_cons, cat_i, cat_a, cat_s, cat_l, Nat.reduceAdd, Nat.reduceLeDiff, Nat.reduceSub, Nat.sub_zero, Nat.sub_self, Nat.zero_add, Nat.le_refl, Nat.zero_le, List.length_cons, List.length_nil, true_and, and_true, true_or, or_true, eq_self, forall_const, true_implies, not_true_eq_false, not_false_eq_true, false_implies, implies_true, false_and, and_false, false_or, or_false, M0, e199]
    refine ⟨fun g => absurd g g0, fun _ => ?_⟩
    refine t_inI (a := 0) (b := 1) (by decide) (by decide) ?_
    rw [if_pos ⟨hx0, hx1⟩]
    simp only [xX6_rest_0, xX6_rest_1, xX6_rest_4, xX6_rest_7, xX6_rest_9, xX6_rest_10, xX6_rest_11, xX6_rest_12, xX6_rest_13, xX6_rest_14, xX6_rest_17, xX6_rest_20, xX6_rest_22, xX6_rest_23, xX6_rest_24, xX6_rest_27, xX6_rest_28, xX6_rest_31, xX6_rest_32, Bool.false_eq_true, if_true, if_false, kl_i, kl_a, kl_s, kl_u, kl_l, okS_nil, okS_cons, cat_i, cat_a, cat_s, cat_l, Nat.reduceAdd, Nat.reduceLeDiff, Nat.reduceSub, Nat.sub_zero, Nat.sub_self, Nat.zero_add, Nat.le_refl, Nat.zero_le, List.length_cons, List.length_nil, true_and, and_true, true_or, or_true, eq_self, forall_const, true_implies, not_true_eq_false, not_false_eq_true, false_implies, implies_true, false_and, and_false, false_or, or_false, M0, i10]
    refine t_tries hM ?_
    simp only [xX6_rest_0, xX6_rest_1, xX6_rest_4, xX6_rest_7, xX6_rest_9, xX6_rest_10, xX6_rest_11, xX6_rest_12, xX6_rest_13, xX6_rest_14, xX6_rest_17, xX6_rest_20, xX6_rest_22, xX6_rest_23, xX6_rest_24, xX6_rest_27, xX6_rest_28, xX6_rest_31, xX6_rest_32, Bool.false_eq_true, if_true, if_false, kl_i, kl_a, kl_s, kl_u, kl_l, okS_nil, okS_cons, cat_i, cat_a, cat_s, cat_l, Nat.reduceAdd, Nat.reduceLeDiff, Nat.reduceSub, Nat.sub_zero, Nat.sub_self, Nat.zero_add, Nat.le_refl, Nat.zero_le, List.length_cons, List.length_nil, true_and, and_true, true_or, or_true, eq_self, forall_const, true_implies, not_true_eq_false, not_false_eq_true, false_implies, implies_true, false_and, and_false, false_or, or_false, M0, e204, e210]
    have h2 : m1 204 2 = nI N := by rw [e204]; exact now_2 hn
    refine t_notes hM h7 (by rw [setR_n _ _ (by decide)]; exact h2) ?_
    have hsc : scM m1 (setR (setR m1 210 (cpA (m 204) (m 210))) 211 (ntF (setR m1 210 (cpA (m 204) (m 210)) 210) (setR m1 210 (cpA (m 204) (m 210)) 211) N)) := scM_211 _ (scM_210 _ (scM_r m1))
    have g210 : setR (setR m1 210 (cpA (m 204) (m 210))) 211 (ntF (setR m1 210 (cpA (m 204) (m 210)) 210) (setR m1 210 (cpA (m 204) (m 210)) 211) N) 210 = cpA (m 204) (m 210) := by rw [setR_n _ _ (by decide), setR_s]
    have g211 : ∀ w, w < N → setR (setR m1 210 (cpA (m 204) (m 210))) 211 (ntF (setR m1 210 (cpA (m 204) (m 210)) 210) (setR m1 210 (cpA (m 204) (m 210)) 211) N) 211 w = cpA (m 204) (m 210) (26 + w) := fun w hw => by
      rw [setR_s, setR_s]
      unfold ntF
      rw [if_pos hw]
    have hq2 : cpA (m 204) (m 210) 2 = nI N := by rw [cpA_j _ _ (by omega)]; exact now_2 hn
    have hn01 : n = 0 ∨ n = 1 := by omega
    rcases hn01 with g | g
    · subst g
      have e' : x = 0 := e
      subst e'
      refine l_rm0 (d := 8) hM h7 h2 61 0 _ _ (by omega) hsc (by rw [g210]; exact hq2) (fun w hw => by rw [g211 w hw, g210]) (fun m' hs' => ?_)
      rw [g210]
      exact ⟨rfl, q0 rfl, RR_sc h hs1 hs'⟩
    · subst g
      have e' : x = 1 := e
      subst e'
      refine l_rm1 (d := 8) (f0 := fun v => m 204 (26 + v)) hM h7 h2 60 1 _ _ (by omega) hsc (by rw [g210]; exact hq2) (fun w hw => by rw [g211 w hw]; exact cpA_j _ _ (by omega)) (fun m' hs' => ?_)
      rw [g210]
      exact ⟨rfl, q1 rfl, RR_sc h hs1 hs'⟩
  refine ⟨fun g => ?_, fun g => ?_⟩
  · refine t_daysToRest hN h7 (scr_r m) ht2 (fun m' hs' => ?_)
    refine ⟨rfl, mod m' hs' _ (fun _ => rfl) (fun g' => ?_)⟩
    rw [g] at g'; exact absurd g' (by decide)
  · refine t_daysToReturn hN h7 hn (scr_r m) ht2 (fun m' hs' => ?_)
    exact ⟨rfl, mod m' hs' _ (fun g' => absurd g' g) (fun _ => rfl)⟩
