/-! calls that foretell: ahead, rest -/
theorem t_goes2 {K : Cx} {d : Nat} {σ : Sg} {m : Mm} {l : Ml} {a N : Nat} {rain : Int32} {Q : Rt} (ha : isA σ a) (hN : m a 2 = nI N) (h7 : N ≤ 7) (hQ : Q (goS N (m a) rain) σ (setR m a (goQ N (m a) rain)) l) : CT K (d + 3) YX6_goes [.ref a, .int rain] σ m l Q := by
  have := t_mGoes (K := K) (d := d) (l := l) (rain := rain) (q := m a) (m := m) (Q := Q) ha hN h7 hQ
  rw [setR_id] at this
  exact this
theorem l_ma {K : Cx} {d : Nat} {σ : Sg} {m0 : Mm} {l : Ml} {N n : Nat} {x z : Int32} {Q : Rt} (hm : wfM σ) (h7 : N ≤ 7) (hn100 : n ≤ 100) : ∀ (k v : Nat) (m : Mm) (e5 : Value), v + k = n → scM m0 m → m 210 2 = nI N → (∀ m' e4 e5, scM m0 m' → m' 210 = gosM N k (m 210) → WX (tX6_ahead K (d + 3)) Q (72, [.ref 199, .int x, .int (nI n), .int z, e4, e5], [], (0, 0), σ, m', l)) → WX (tX6_ahead K (d + 3)) Q (50, [.ref 199, .int x, .int (nI n), .int z, .int (nI v), e5], [], (0, 0), σ, m, l) := by
  obtain ⟨M0, R0, R1, R2, R4, R8, R10, R11, R12, R14, R20, R21, R22, A200, L200, A201, L201, A202, L202, A203, L203, A204, L204, A205, L205, A206, L206, A207, L207, A208, L208, A209, L209, A210, L210, A211, L211⟩ := hm
  intro k
  induction k with
  | zero =>
    intro v m e5 hv hs hN hQ
    have c1 : (nI v < nI n) = False := (ltN (by omega) (by omega)).trans (eq_false (by omega))
    rw [xX6_ahead_50]
    simp only [xX6_ahead_52, xX6_ahead_53, Bool.false_eq_true, if_true, if_false, kl_i, kl_a, kl_s, kl_u, kl_l, okS_nil, okS_cons, cat_i, cat_a, cat_s, cat_l, Nat.reduceAdd, Nat.reduceLeDiff, Nat.reduceSub, Nat.sub_zero, Nat.sub_self, Nat.zero_add, Nat.le_refl, Nat.zero_le, List.length_cons, List.length_nil, true_and, and_true, true_or, or_true, eq_self, forall_const, true_implies, not_true_eq_false, not_false_eq_true, false_implies, implies_true, false_and, and_false, false_or, or_false, c1]
    exact hQ _ _ _ hs rfl
  | succ k ih =>
    intro v m e5 hv hs hN hQ
    have c1 : (nI v < nI n) = True := (ltN (by omega) (by omega)).trans (eq_true (by omega))
    rw [xX6_ahead_50]
    simp only [xX6_ahead_52, xX6_ahead_53, xX6_ahead_56, xX6_ahead_57, xX6_ahead_60, xX6_ahead_61, xX6_ahead_64, xX6_ahead_66, xX6_ahead_69, Bool.false_eq_true, if_true, if_false, kl_i, kl_a, kl_s, kl_u, kl_l, okS_nil, okS_cons, cat_i, cat_a, cat_s, cat_l, Nat.reduceAdd, Nat.reduceLeDiff, Nat.reduceSub, Nat.sub_zero, Nat.sub_self, Nat.zero_add, Nat.le_refl, Nat.zero_le, List.length_cons, List.length_nil, true_and, and_true, true_or, or_true, eq_self, forall_const, true_implies, not_true_eq_false, not_false_eq_true, false_implies, implies_true, false_and, and_false, false_or, or_false, c1, M0, R21]
    refine t_goes2 ⟨A210, L210⟩ hN h7 ?_
    simp only [xX6_ahead_64, xX6_ahead_66, xX6_ahead_69, Bool.false_eq_true, if_true, if_false, kl_i, kl_a, kl_s, kl_u, kl_l, okS_nil, okS_cons, cat_i, cat_a, cat_s, cat_l, Nat.reduceAdd, Nat.reduceLeDiff, Nat.reduceSub, Nat.sub_zero, Nat.sub_self, Nat.zero_add, Nat.le_refl, Nat.zero_le, List.length_cons, List.length_nil, true_and, and_true, true_or, or_true, eq_self, forall_const, true_implies, not_true_eq_false, not_false_eq_true, false_implies, implies_true, false_and, and_false, false_or, or_false, nI1]
    refine ih (v + 1) _ _ (by omega) (scM_210 _ hs) (by rw [setR_s, goQ_2 N h7]; exact hN) (fun m' e4 e5 hs' e => hQ m' e4 e5 hs' ?_)
    rw [e, setR_s]
    rfl
theorem p_ahead {K : Cx} {σ : Sg} (hw : WF σ) (x y z : Int32) : PAIR K σ YX5_ahead YX6_ahead [.int x, .int y, .int z] := by
  intro m l h
  obtain ⟨wN, wR, wT, wA, wL, wM, wI⟩ := hw
  have hM := wM
  have hN := wN
  obtain ⟨H0, F0, F1, F2, F3, F4, F5, F6, F7, P33, P39, P45⟩ := wN
  obtain ⟨M0, R0, R1, R2, R4, R8, R10, R11, R12, R14, R20, R21, R22, A200, L200, A201, L201, A202, L202, A203, L203, A204, L204, A205, L205, A206, L206, A207, L207, A208, L208, A209, L209, A210, L210, A211, L211⟩ := wM
  obtain ⟨N, X, A, h7, hn, hb, ht, hz, hX, hA, a1, a2, a3, ha⟩ := h.2.2.2.2.1
  have h8 : m 33 8 = nI N := hn.2.1
  have h2 := now_2 hn
  have badm : (¬ (¬ x < 0 ∧ x < nI N) ∨ ¬ (¬ y < 0 ∧ ¬ 60 < y) ∨ ¬ (¬ z < 0 ∧ ¬ 1 < z)) → CT K 12 YX6_ahead [.ref 199, .int x, .int y, .int z] σ m l (fun r' σ2 m2 l2 => σ2 = σ ∧ r' = -1000001 ∧ RR m2) := by
    intro hb
    refine kX6_ahead ?_
    simp only [xX6_ahead_0, xX6_ahead_1, xX6_ahead_2, xX6_ahead_5, xX6_ahead_8, xX6_ahead_9, xX6_ahead_10, xX6_ahead_11, xX6_ahead_14, xX6_ahead_17, xX6_ahead_20, xX6_ahead_21, xX6_ahead_22, xX6_ahead_23, xX6_ahead_24, xX6_ahead_27, xX6_ahead_30, xX6_ahead_32, xX6_ahead_33, xX6_ahead_34, xX6_ahead_37, xX6_ahead_38, xX6_ahead_41, xX6_ahead_43, xX6_ahead_44, xX6_ahead_45, xX6_ahead_46, xX6_ahead_47, xX6_ahead_48, Bool.false_eq_true, if_true, if_false, kl_i, kl_a, kl_s, kl_u, kl_l, okS_nil, okS_cons, cat_i, cat_a, cat_s, cat_l, Nat.reduceAdd, Nat.reduceLeDiff, Nat.reduceSub, Nat.sub_zero, Nat.sub_self, Nat.zero_add, Nat.le_refl, Nat.zero_le, List.length_cons, List.length_nil, true_and, and_true, true_or, or_true, eq_self, forall_const, true_implies, not_true_eq_false, not_false_eq_true, false_implies, implies_true, false_and, and_false, false_or, or_false, M0]
    refine t_isVillage hM h2 h7 ?_
    by_cases hv : ¬ x < 0 ∧ x < nI N
    · have hb := hb.resolve_left (fun g => g hv)
      rw [if_pos hv]
      simp only [xX6_ahead_0, xX6_ahead_1, xX6_ahead_2, xX6_ahead_5, xX6_ahead_8, xX6_ahead_9, xX6_ahead_10, xX6_ahead_11, xX6_ahead_14, xX6_ahead_17, xX6_ahead_20, xX6_ahead_21, xX6_ahead_22, xX6_ahead_23, xX6_ahead_24, xX6_ahead_27, xX6_ahead_30, xX6_ahead_32, xX6_ahead_33, xX6_ahead_34, xX6_ahead_37, xX6_ahead_38, xX6_ahead_41, xX6_ahead_43, xX6_ahead_44, xX6_ahead_45, xX6_ahead_46, xX6_ahead_47, xX6_ahead_48, Bool.false_eq_true, if_true, if_false, kl_i, kl_a, kl_s, kl_u, kl_l, okS_nil, okS_cons, cat_i, cat_a, cat_s, cat_l, Nat.reduceAdd, Nat.reduceLeDiff, Nat.reduceSub, Nat.sub_zero, Nat.sub_self, Nat.zero_add, Nat.le_refl, Nat.zero_le, List.length_cons, List.length_nil, true_and, and_true, true_or, or_true, eq_self, forall_const, true_implies, not_true_eq_false, not_false_eq_true, false_implies, implies_true, false_and, and_false, false_or, or_false, M0, i10]
      refine t_inI (a := 0) (b := 60) (by decide) (by decide) ?_
      by_cases hy : ¬ y < 0 ∧ ¬ 60 < y
      · have hb := hb.resolve_left (fun g => g hy)
        rw [if_pos hy]
        simp only [xX6_ahead_0, xX6_ahead_1, xX6_ahead_2, xX6_ahead_5, xX6_ahead_8, xX6_ahead_9, xX6_ahead_10, xX6_ahead_11, xX6_ahead_14, xX6_ahead_17, xX6_ahead_20, xX6_ahead_21, xX6_ahead_22, xX6_ahead_23, xX6_ahead_24, xX6_ahead_27, xX6_ahead_30, xX6_ahead_32, xX6_ahead_33, xX6_ahead_34, xX6_ahead_37, xX6_ahead_38, xX6_ahead_41, xX6_ahead_43, xX6_ahead_44, xX6_ahead_45, xX6_ahead_46, xX6_ahead_47, xX6_ahead_48, Bool.false_eq_true, if_true, if_false, kl_i, kl_a, kl_s, kl_u, kl_l, okS_nil, okS_cons, cat_i, cat_a, cat_s, cat_l, Nat.reduceAdd, Nat.reduceLeDiff, Nat.reduceSub, Nat.sub_zero, Nat.sub_self, Nat.zero_add, Nat.le_refl, Nat.zero_le, List.length_cons, List.length_nil, true_and, and_true, true_or, or_true, eq_self, forall_const, true_implies, not_true_eq_false, not_false_eq_true, false_implies, implies_true, false_and, and_false, false_or, or_false, M0, i10]
        refine t_inI (a := 0) (b := 1) (by decide) (by decide) ?_
        rw [if_neg hb]
        simp only [xX6_ahead_0, xX6_ahead_1, xX6_ahead_2, xX6_ahead_5, xX6_ahead_8, xX6_ahead_9, xX6_ahead_10, xX6_ahead_11, xX6_ahead_14, xX6_ahead_17, xX6_ahead_20, xX6_ahead_21, xX6_ahead_22, xX6_ahead_23, xX6_ahead_24, xX6_ahead_27, xX6_ahead_30, xX6_ahead_32, xX6_ahead_33, xX6_ahead_34, xX6_ahead_37, xX6_ahead_38, xX6_ahead_41, xX6_ahead_43, xX6_ahead_44, xX6_ahead_45, xX6_ahead_46, xX6_ahead_47, xX6_ahead_48, Bool.false_eq_true, if_true, if_false, kl_i, kl_a, kl_s, kl_u, kl_l, okS_nil, okS_cons, cat_i, cat_a, cat_s, cat_l, Nat.reduceAdd, Nat.reduceLeDiff, Nat.reduceSub, Nat.sub_zero, Nat.sub_self, Nat.zero_add, Nat.le_refl, Nat.zero_le, List.length_cons, List.length_nil, true_and, and_true, true_or, or_true, eq_self, forall_const, true_implies, not_true_eq_false, not_false_eq_true, false_implies, implies_true, false_and, and_false, false_or, or_false, M0]
        exact h
      · rw [if_neg hy]
        simp only [xX6_ahead_0, xX6_ahead_1, xX6_ahead_2, xX6_ahead_5, xX6_ahead_8, xX6_ahead_9, xX6_ahead_10, xX6_ahead_11, xX6_ahead_14, xX6_ahead_17, xX6_ahead_20, xX6_ahead_21, xX6_ahead_22, xX6_ahead_23, xX6_ahead_24, xX6_ahead_27, xX6_ahead_30, xX6_ahead_32, xX6_ahead_33, xX6_ahead_34, xX6_ahead_37, xX6_ahead_38, xX6_ahead_41, xX6_ahead_43, xX6_ahead_44, xX6_ahead_45, xX6_ahead_46, xX6_ahead_47, xX6_ahead_48, Bool.false_eq_true, if_true, if_false, kl_i, kl_a, kl_s, kl_u, kl_l, okS_nil, okS_cons, cat_i, cat_a, cat_s, cat_l, Nat.reduceAdd, Nat.reduceLeDiff, Nat.reduceSub, Nat.sub_zero, Nat.sub_self, Nat.zero_add, Nat.le_refl, Nat.zero_le, List.length_cons, List.length_nil, true_and, and_true, true_or, or_true, eq_self, forall_const, true_implies, not_true_eq_false, not_false_eq_true, false_implies, implies_true, false_and, and_false, false_or, or_false, M0]
        exact h
    · rw [if_neg hv]
      simp only [xX6_ahead_0, xX6_ahead_1, xX6_ahead_2, xX6_ahead_5, xX6_ahead_8, xX6_ahead_9, xX6_ahead_10, xX6_ahead_11, xX6_ahead_14, xX6_ahead_17, xX6_ahead_20, xX6_ahead_21, xX6_ahead_22, xX6_ahead_23, xX6_ahead_24, xX6_ahead_27, xX6_ahead_30, xX6_ahead_32, xX6_ahead_33, xX6_ahead_34, xX6_ahead_37, xX6_ahead_38, xX6_ahead_41, xX6_ahead_43, xX6_ahead_44, xX6_ahead_45, xX6_ahead_46, xX6_ahead_47, xX6_ahead_48, Bool.false_eq_true, if_true, if_false, kl_i, kl_a, kl_s, kl_u, kl_l, okS_nil, okS_cons, cat_i, cat_a, cat_s, cat_l, Nat.reduceAdd, Nat.reduceLeDiff, Nat.reduceSub, Nat.sub_zero, Nat.sub_self, Nat.zero_add, Nat.le_refl, Nat.zero_le, List.length_cons, List.length_nil, true_and, and_true, true_or, or_true, eq_self, forall_const, true_implies, not_true_eq_false, not_false_eq_true, false_implies, implies_true, false_and, and_false, false_or, or_false, M0]
      exact h
  refine kX5_ahead ?_
  simp only [xX5_ahead_0, xX5_ahead_1, xX5_ahead_4, xX5_ahead_5, xX5_ahead_8, xX5_ahead_11, xX5_ahead_12, xX5_ahead_15, xX5_ahead_16, xX5_ahead_18, xX5_ahead_21, xX5_ahead_22, xX5_ahead_25, xX5_ahead_26, xX5_ahead_27, xX5_ahead_30, xX5_ahead_32, xX5_ahead_33, xX5_ahead_34, xX5_ahead_37, xX5_ahead_38, xX5_ahead_41, xX5_ahead_42, xX5_ahead_45, xX5_ahead_46, xX5_ahead_49, xX5_ahead_50, xX5_ahead_53, xX5_ahead_56, xX5_ahead_57, xX5_ahead_58, xX5_ahead_61, xX5_ahead_62, xX5_ahead_65, xX5_ahead_68, xX5_ahead_69, xX5_ahead_70, Bool.false_eq_true, if_true, if_false, kl_i, kl_a, kl_s, kl_u, kl_l, okS_nil, okS_cons, cat_i, cat_a, cat_s, cat_l, Nat.reduceAdd, Nat.reduceLeDiff, Nat.reduceSub, Nat.sub_zero, Nat.sub_self, Nat.zero_add, Nat.le_refl, Nat.zero_le, List.length_cons, List.length_nil, true_and, and_true, true_or, or_true, eq_self, forall_const, true_implies, not_true_eq_false, not_false_eq_true, false_implies, implies_true, false_and, and_false, false_or, or_false, H0, F0, F1, F2, F3, F4, F5, F6, F7, P33.1, P39.1, P45.1]
  refine t_has P33.1 ?_
  rw [h8]
  by_cases hv : ¬ (¬ x < 0 ∧ x < nI N)
  · rw [if_neg hv]
    simp only [xX5_ahead_0, xX5_ahead_1, xX5_ahead_4, xX5_ahead_5, xX5_ahead_8, xX5_ahead_11, xX5_ahead_12, xX5_ahead_15, xX5_ahead_16, xX5_ahead_18, xX5_ahead_21, xX5_ahead_22, xX5_ahead_25, xX5_ahead_26, xX5_ahead_27, xX5_ahead_30, xX5_ahead_32, xX5_ahead_33, xX5_ahead_34, xX5_ahead_37, xX5_ahead_38, xX5_ahead_41, xX5_ahead_42, xX5_ahead_45, xX5_ahead_46, xX5_ahead_49, xX5_ahead_50, xX5_ahead_53, xX5_ahead_56, xX5_ahead_57, xX5_ahead_58, xX5_ahead_61, xX5_ahead_62, xX5_ahead_65, xX5_ahead_68, xX5_ahead_69, xX5_ahead_70, Bool.false_eq_true, if_true, if_false, kl_i, kl_a, kl_s, kl_u, kl_l, okS_nil, okS_cons, cat_i, cat_a, cat_s, cat_l, Nat.reduceAdd, Nat.reduceLeDiff, Nat.reduceSub, Nat.sub_zero, Nat.sub_self, Nat.zero_add, Nat.le_refl, Nat.zero_le, List.length_cons, List.length_nil, true_and, and_true, true_or, or_true, eq_self, forall_const, true_implies, not_true_eq_false, not_false_eq_true, false_implies, implies_true, false_and, and_false, false_or, or_false, H0, F0, F1, F2, F3, F4, F5, F6, F7, P33.1, P39.1, P45.1]
    exact badm (Or.inl hv)
  have hv := Decidable.not_not.mp hv
  rw [if_pos hv]
  simp only [xX5_ahead_0, xX5_ahead_1, xX5_ahead_4, xX5_ahead_5, xX5_ahead_8, xX5_ahead_11, xX5_ahead_12, xX5_ahead_15, xX5_ahead_16, xX5_ahead_18, xX5_ahead_21, xX5_ahead_22, xX5_ahead_25, xX5_ahead_26, xX5_ahead_27, xX5_ahead_30, xX5_ahead_32, xX5_ahead_33, xX5_ahead_34, xX5_ahead_37, xX5_ahead_38, xX5_ahead_41, xX5_ahead_42, xX5_ahead_45, xX5_ahead_46, xX5_ahead_49, xX5_ahead_50, xX5_ahead_53, xX5_ahead_56, xX5_ahead_57, xX5_ahead_58, xX5_ahead_61, xX5_ahead_62, xX5_ahead_65, xX5_ahead_68, xX5_ahead_69, xX5_ahead_70, Bool.false_eq_true, if_true, if_false, kl_i, kl_a, kl_s, kl_u, kl_l, okS_nil, okS_cons, cat_i, cat_a, cat_s, cat_l, Nat.reduceAdd, Nat.reduceLeDiff, Nat.reduceSub, Nat.sub_zero, Nat.sub_self, Nat.zero_add, Nat.le_refl, Nat.zero_le, List.length_cons, List.length_nil, true_and, and_true, true_or, or_true, eq_self, forall_const, true_implies, not_true_eq_false, not_false_eq_true, false_implies, implies_true, false_and, and_false, false_or, or_false, H0, F0, F1, F2, F3, F4, F5, F6, F7, P33.1, P39.1, P45.1, i10]
  by_cases hy0 : y < 0
  · exact ⟨fun _ => badm (Or.inr (Or.inl (fun g => g.1 hy0))), fun g => absurd hy0 g⟩
  refine ⟨fun g => absurd g hy0, fun _ => ?_⟩
  by_cases hy1 : 60 < y
  · exact ⟨fun _ => badm (Or.inr (Or.inl (fun g => g.2 hy1))), fun g => absurd hy1 g⟩
  refine ⟨fun g => absurd g hy1, fun _ => ?_⟩
  by_cases hz0 : z < 0
  · exact ⟨fun _ => badm (Or.inr (Or.inr (fun g => g.1 hz0))), fun g => absurd hz0 g⟩
  refine ⟨fun g => absurd g hz0, fun _ => ?_⟩
  by_cases hz1 : 1 < z
  · exact ⟨fun _ => badm (Or.inr (Or.inr (fun g => g.2 hz1))), fun g => absurd hz1 g⟩
  refine ⟨fun g => absurd g hz1, fun _ => ?_⟩
  obtain ⟨v, hlt, e⟩ := nat_of (by omega) hv.1 hv.2
  subst e
  obtain ⟨n, n1, n2, e⟩ := rng (a := 0) (b := 60) (by omega) (by omega) ⟨hy0, hy1⟩
  subst e
  have hcv := clN (v := v) (by omega)
  have hiv := inN (v := v) (n := 7) (by omega) (by omega)
  have c26 := clN (v := 26 + v) (by omega)
  have v26 := inN (v := 26 + v) (n := 40) (by omega) (by omega)
  have c33 := clN (v := 33 + v) (by omega)
  have v33 := inN (v := 33 + v) (n := 40) (by omega) (by omega)
  refine t_start hN h7 hn (scr_r m) (a' := upd (cpA (m 204) (m 210)) (33 + v) 0) (L := fun w => w = v) (fun j hj => (upd_n _ _ (by omega)).trans (cpA_j _ _ (by omega))) (fun w _ g => by rw [g, upd_s]) (fun q ht2 => ?_)
  have hP45 := P45
  obtain ⟨hO, r0, r1, r2, r3, r4, o1, o2, o3, o4, o5, l1, l2, l3, l4, l5⟩ := P45
  simp only [xX5_ahead_0, xX5_ahead_1, xX5_ahead_4, xX5_ahead_5, xX5_ahead_8, xX5_ahead_11, xX5_ahead_12, xX5_ahead_15, xX5_ahead_16, xX5_ahead_18, xX5_ahead_21, xX5_ahead_22, xX5_ahead_25, xX5_ahead_26, xX5_ahead_27, xX5_ahead_30, xX5_ahead_32, xX5_ahead_33, xX5_ahead_34, xX5_ahead_37, xX5_ahead_38, xX5_ahead_41, xX5_ahead_42, xX5_ahead_45, xX5_ahead_46, xX5_ahead_49, xX5_ahead_50, xX5_ahead_53, xX5_ahead_56, xX5_ahead_57, xX5_ahead_58, xX5_ahead_61, xX5_ahead_62, xX5_ahead_65, xX5_ahead_68, xX5_ahead_69, xX5_ahead_70, Bool.false_eq_true, if_true, if_false, kl_i, kl_a, kl_s, kl_u, kl_l, okS_nil, okS_cons, cat_i, cat_a, cat_s, cat_l, Nat.reduceAdd, Nat.reduceLeDiff, Nat.reduceSub, Nat.sub_zero, Nat.sub_self, Nat.zero_add, Nat.le_refl, Nat.zero_le, List.length_cons, List.length_nil, true_and, and_true, true_or, or_true, eq_self, forall_const, true_implies, not_true_eq_false, not_false_eq_true, false_implies, implies_true, false_and, and_false, false_or, or_false, H0, F4, hO]
  refine t_passDays hP45 ht2.2.1 h7 (by omega) ?_
  have td := tri_days h7 n _ _ ht2
  have e204 : ∀ q, putP m 45 q 204 = m 204 := fun q => putP_o _ _ (by omega)
  have e210 : ∀ q, putP m 45 q 210 = m 210 := fun q => putP_o _ _ (by omega)
  have mod : ∀ (r : Int32), (z = 0 → gosM N n (upd (cpA (m 204) (m 210)) (33 + v) 0) (26 + v) = r) → (z ≠ 0 → gosM N n (upd (cpA (m 204) (m 210)) (33 + v) 0) (33 + v) = r) → CT K 12 YX6_ahead [.ref 199, .int (nI v), .int (nI n), .int z] σ (putP m 45 (dysQ N n q)) l (fun r' σ2 m2 l2 => σ2 = σ ∧ r' = r ∧ RR m2) := by
    intro r q0 q1
    refine kX6_ahead ?_
    simp only [xX6_ahead_0, xX6_ahead_1, xX6_ahead_2, xX6_ahead_5, xX6_ahead_8, xX6_ahead_9, xX6_ahead_10, xX6_ahead_11, xX6_ahead_14, xX6_ahead_17, xX6_ahead_20, xX6_ahead_21, xX6_ahead_22, xX6_ahead_23, xX6_ahead_24, xX6_ahead_27, xX6_ahead_30, xX6_ahead_32, xX6_ahead_33, xX6_ahead_34, xX6_ahead_37, xX6_ahead_38, xX6_ahead_41, xX6_ahead_43, xX6_ahead_44, xX6_ahead_45, xX6_ahead_46, xX6_ahead_47, xX6_ahead_48, Bool.false_eq_true, if_true, if_false, kl_i, kl_a, kl_s, kl_u, kl_l, okS_nil, okS_cons, cat_i, cat_a, cat_s, cat_l, Nat.reduceAdd, Nat.reduceLeDiff, Nat.reduceSub, Nat.sub_zero, Nat.sub_self, Nat.zero_add, Nat.le_refl, Nat.zero_le, List.length_cons, List.length_nil, true_and, and_true, true_or, or_true, eq_self, forall_const, true_implies, not_true_eq_false, not_false_eq_true, false_implies, implies_true, false_and, and_false, false_or, or_false, M0]
    refine t_isVillage hM (by rw [e204]; exact h2) h7 ?_
    rw [if_pos hv]
    simp only [xX6_ahead_0, xX6_ahead_1, xX6_ahead_2, xX6_ahead_5, xX6_ahead_8, xX6_ahead_9, xX6_ahead_10, xX6_ahead_11, xX6_ahead_14, xX6_ahead_17, xX6_ahead_20, xX6_ahead_21, xX6_ahead_22, xX6_ahead_23, xX6_ahead_24, xX6_ahead_27, xX6_ahead_30, xX6_ahead_32, xX6_ahead_33, xX6_ahead_34, xX6_ahead_37, xX6_ahead_38, xX6_ahead_41, xX6_ahead_43, xX6_ahead_44, xX6_ahead_45, xX6_ahead_46, xX6_ahead_47, xX6_ahead_48, Bool.false_eq_true, if_true, if_false, kl_i, kl_a, kl_s, kl_u, kl_l, okS_nil, okS_cons, cat_i, cat_a, cat_s, cat_l, Nat.reduceAdd, Nat.reduceLeDiff, Nat.reduceSub, Nat.sub_zero, Nat.sub_self, Nat.zero_add, Nat.le_refl, Nat.zero_le, List.length_cons, List.length_nil, true_and, and_true, true_or, or_true, eq_self, forall_const, true_implies, not_true_eq_false, not_false_eq_true, false_implies, implies_true, false_and, and_false, false_or, or_false, M0, i10]
    refine t_inI (a := 0) (b := 60) (by decide) (by decide) ?_
    rw [if_pos ⟨hy0, hy1⟩]
    simp only [xX6_ahead_0, xX6_ahead_1, xX6_ahead_2, xX6_ahead_5, xX6_ahead_8, xX6_ahead_9, xX6_ahead_10, xX6_ahead_11, xX6_ahead_14, xX6_ahead_17, xX6_ahead_20, xX6_ahead_21, xX6_ahead_22, xX6_ahead_23, xX6_ahead_24, xX6_ahead_27, xX6_ahead_30, xX6_ahead_32, xX6_ahead_33, xX6_ahead_34, xX6_ahead_37, xX6_ahead_38, xX6_ahead_41, xX6_ahead_43, xX6_ahead_44, xX6_ahead_45, xX6_ahead_46, xX6_ahead_47, xX6_ahead_48, Bool.false_eq_true, if_true, if_false, kl_i, kl_a, kl_s, kl_u, kl_l, okS_nil, okS_cons, cat_i, cat_a, cat_s, cat_l, Nat.reduceAdd, Nat.reduceLeDiff, Nat.reduceSub, Nat.sub_zero, Nat.sub_self, Nat.zero_add, Nat.le_refl, Nat.zero_le, List.length_cons, List.length_nil, true_and, and_true, true_or, or_true, eq_self, forall_const, true_implies, not_true_eq_false, not_false_eq_true, false_implies, implies_true, false_and, and_false, false_or, or_false, M0, i10]
    refine t_inI (a := 0) (b := 1) (by decide) (by decide) ?_
    rw [if_pos ⟨hz0, hz1⟩]
    simp only [xX6_ahead_0, xX6_ahead_1, xX6_ahead_2, xX6_ahead_5, xX6_ahead_8, xX6_ahead_9, xX6_ahead_10, xX6_ahead_11, xX6_ahead_14, xX6_ahead_17, xX6_ahead_20, xX6_ahead_21, xX6_ahead_22, xX6_ahead_23, xX6_ahead_24, xX6_ahead_27, xX6_ahead_30, xX6_ahead_32, xX6_ahead_33, xX6_ahead_34, xX6_ahead_37, xX6_ahead_38, xX6_ahead_41, xX6_ahead_43, xX6_ahead_44, xX6_ahead_45, xX6_ahead_46, xX6_ahead_47, xX6_ahead_48, Bool.false_eq_true, if_true, if_false, kl_i, kl_a, kl_s, kl_u, kl_l, okS_nil, okS_cons, cat_i, cat_a, cat_s, cat_l, Nat.reduceAdd, Nat.reduceLeDiff, Nat.reduceSub, Nat.sub_zero, Nat.sub_self, Nat.zero_add, Nat.le_refl, Nat.zero_le, List.length_cons, List.length_nil, true_and, and_true, true_or, or_true, eq_self, forall_const, true_implies, not_true_eq_false, not_false_eq_true, false_implies, implies_true, false_and, and_false, false_or, or_false, M0, i10]
    refine t_tries hM ?_
    simp only [xX6_ahead_0, xX6_ahead_1, xX6_ahead_2, xX6_ahead_5, xX6_ahead_8, xX6_ahead_9, xX6_ahead_10, xX6_ahead_11, xX6_ahead_14, xX6_ahead_17, xX6_ahead_20, xX6_ahead_21, xX6_ahead_22, xX6_ahead_23, xX6_ahead_24, xX6_ahead_27, xX6_ahead_30, xX6_ahead_32, xX6_ahead_33, xX6_ahead_34, xX6_ahead_37, xX6_ahead_38, xX6_ahead_41, xX6_ahead_43, xX6_ahead_44, xX6_ahead_45, xX6_ahead_46, xX6_ahead_47, xX6_ahead_48, Bool.false_eq_true, if_true, if_false, kl_i, kl_a, kl_s, kl_u, kl_l, okS_nil, okS_cons, cat_i, cat_a, cat_s, cat_l, Nat.reduceAdd, Nat.reduceLeDiff, Nat.reduceSub, Nat.sub_zero, Nat.sub_self, Nat.zero_add, Nat.le_refl, Nat.zero_le, List.length_cons, List.length_nil, true_and, and_true, true_or, or_true, eq_self, forall_const, true_implies, not_true_eq_false, not_false_eq_true, false_implies, implies_true, false_and, and_false, false_or, or_false, M0, R21, A210, L210, k33, c33, v33, upM_setR, setR_s, setR_setR, e204, e210]
    refine l_ma (d := 8) (m0 := putP m 45 (dysQ N n q)) hM h7 (by omega) n 0 _ _ (by omega) (scM_210 _ (scM_r _)) ?_ (fun m' e4 e5 hs' em => ?_)
    · rw [setR_s, upd_n _ _ (by omega), cpA_j _ _ (by omega)]; exact h2
    · rw [setR_s] at em
      simp only [xX6_ahead_72, xX6_ahead_73, xX6_ahead_76, xX6_ahead_77, xX6_ahead_80, xX6_ahead_82, xX6_ahead_85, xX6_ahead_87, xX6_ahead_88, xX6_ahead_89, xX6_ahead_90, Bool.false_eq_true, if_true, if_false, kl_i, kl_a, kl_s, kl_u, kl_l, okS_nil, okS_cons, cat_i, cat_a, cat_s, cat_l, Nat.reduceAdd, Nat.reduceLeDiff, Nat.reduceSub, Nat.sub_zero, Nat.sub_self, Nat.zero_add, Nat.le_refl, Nat.zero_le, List.length_cons, List.length_nil, true_and, and_true, true_or, or_true, eq_self, forall_const, true_implies, not_true_eq_false, not_false_eq_true, false_implies, implies_true, false_and, and_false, false_or, or_false, M0, R21]
      refine ⟨fun g => ?_, fun g => ?_⟩
      · simp only [xX6_ahead_72, xX6_ahead_73, xX6_ahead_76, xX6_ahead_77, xX6_ahead_80, xX6_ahead_82, xX6_ahead_85, xX6_ahead_87, xX6_ahead_88, xX6_ahead_89, xX6_ahead_90, Bool.false_eq_true, if_true, if_false, kl_i, kl_a, kl_s, kl_u, kl_l, okS_nil, okS_cons, cat_i, cat_a, cat_s, cat_l, Nat.reduceAdd, Nat.reduceLeDiff, Nat.reduceSub, Nat.sub_zero, Nat.sub_self, Nat.zero_add, Nat.le_refl, Nat.zero_le, List.length_cons, List.length_nil, true_and, and_true, true_or, or_true, eq_self, forall_const, true_implies, not_true_eq_false, not_false_eq_true, false_implies, implies_true, false_and, and_false, false_or, or_false, M0, R21, A210, L210, k26, c26, v26, em]
        exact ⟨q0 g, RR_sc h (scr_45 _ (scr_r m)) hs'⟩
      · simp only [xX6_ahead_72, xX6_ahead_73, xX6_ahead_76, xX6_ahead_77, xX6_ahead_80, xX6_ahead_82, xX6_ahead_85, xX6_ahead_87, xX6_ahead_88, xX6_ahead_89, xX6_ahead_90, Bool.false_eq_true, if_true, if_false, kl_i, kl_a, kl_s, kl_u, kl_l, okS_nil, okS_cons, cat_i, cat_a, cat_s, cat_l, Nat.reduceAdd, Nat.reduceLeDiff, Nat.reduceSub, Nat.sub_zero, Nat.sub_self, Nat.zero_add, Nat.le_refl, Nat.zero_le, List.length_cons, List.length_nil, true_and, and_true, true_or, or_true, eq_self, forall_const, true_implies, not_true_eq_false, not_false_eq_true, false_implies, implies_true, false_and, and_false, false_or, or_false, M0, R21, A210, L210, k33, c33, v33, em]
        exact ⟨q1 g, RR_sc h (scr_45 _ (scr_r m)) hs'⟩
  simp only [xX5_ahead_0, xX5_ahead_1, xX5_ahead_4, xX5_ahead_5, xX5_ahead_8, xX5_ahead_11, xX5_ahead_12, xX5_ahead_15, xX5_ahead_16, xX5_ahead_18, xX5_ahead_21, xX5_ahead_22, xX5_ahead_25, xX5_ahead_26, xX5_ahead_27, xX5_ahead_30, xX5_ahead_32, xX5_ahead_33, xX5_ahead_34, xX5_ahead_37, xX5_ahead_38, xX5_ahead_41, xX5_ahead_42, xX5_ahead_45, xX5_ahead_46, xX5_ahead_49, xX5_ahead_50, xX5_ahead_53, xX5_ahead_56, xX5_ahead_57, xX5_ahead_58, xX5_ahead_61, xX5_ahead_62, xX5_ahead_65, xX5_ahead_68, xX5_ahead_69, xX5_ahead_70, Bool.false_eq_true, if_true, if_false, kl_i, kl_a, kl_s, kl_u, kl_l, okS_nil, okS_cons, cat_i, cat_a, cat_s, cat_l, Nat.reduceAdd, Nat.reduceLeDiff, Nat.reduceSub, Nat.sub_zero, Nat.sub_self, Nat.zero_add, Nat.le_refl, Nat.zero_le, List.length_cons, List.length_nil, true_and, and_true, true_or, or_true, eq_self, forall_const, true_implies, not_true_eq_false, not_false_eq_true, false_implies, implies_true, false_and, and_false, false_or, or_false, H0, F4, hO, r0, r1, r2, r3, r4, o1, o2, o3, o4, o5, l1, l2, l3, l4, l5, hcv, hiv, putP_2, putP_5]
  refine ⟨fun g => ?_, fun g => ?_⟩
  · exact mod _ (fun _ => (td.1.2.2.2.2.2.1 v hlt).2.2.2.symm) (fun g' => absurd g g')
  · exact mod _ (fun g' => absurd g' g) (fun _ => (td.1.2.2.2.2.2.2 v hlt rfl).symm)
