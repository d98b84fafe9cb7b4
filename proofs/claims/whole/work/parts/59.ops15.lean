/-! calls that foretell: guards, the model's side; both -/
theorem l_mgm {K : Cx} {d : Nat} {σ : Sg} {m0 : Mm} {l : Ml} {N n : Nat} {Q : Rt} (hm : wfM σ) (h7 : N ≤ 7) (hn100 : n ≤ 100) (h2 : m0 204 2 = nI N) : ∀ (k s : Nat) (b : Int32) (m : Mm), s + k = 2 ^ N → (b = -1000000 ∨ ∃ u, u < 128 ∧ b = nI u) → scM m0 m → (∀ m', scM m0 m' → Q (gmM N n (m0 204) k s b) σ m' l) → WX (tX6_guards K (d + 4)) Q (30, [.ref 199, .int (nI n), .int b, .int (nI s)], [], (0, 0), σ, m, l) := by
  have hm0 := hm
  have hp := p27 N (by omega)
  obtain ⟨M0, R0, R1, R2, R4, R8, R10, R11, R12, R14, R20, R21, R22, A200, L200, A201, L201, A202, L202, A203, L203, A204, L204, A205, L205, A206, L206, A207, L207, A208, L208, A209, L209, A210, L210, A211, L211⟩ := hm
  intro k
  induction k with
  | zero =>
    intro s b m hv hb hs hQ
    have e204 : m 204 = m0 204 := hs 204 (by omega)
    have c1 : (nI s < nI (2 ^ N)) = False := (ltN (by omega) (by omega)).trans (eq_false (by omega))
    rw [xX6_guards_30]
    simp only [xX6_guards_31, xX6_guards_32, xX6_guards_33, xX6_guards_36, xX6_guards_37, xX6_guards_38, xX6_guards_39, xX6_guards_42, xX6_guards_43, xX6_guards_46, xX6_guards_47, xX6_guards_50, xX6_guards_51, xX6_guards_52, xX6_guards_53, xX6_guards_54, xX6_guards_56, xX6_guards_59, xX6_guards_60, xX6_guards_63, xX6_guards_64, xX6_guards_67, xX6_guards_70, xX6_guards_71, xX6_guards_72, xX6_guards_75, xX6_guards_77, xX6_guards_80, xX6_guards_81, xX6_guards_84, xX6_guards_85, xX6_guards_86, xX6_guards_89, xX6_guards_92, xX6_guards_93, Bool.false_eq_true, if_true, if_false, kl_i, kl_a, kl_s, kl_u, kl_l, okS_nil, okS_cons, cat_i, cat_a, cat_s, cat_l, Nat.reduceAdd, Nat.reduceLeDiff, Nat.reduceSub, Nat.sub_zero, Nat.sub_self, Nat.zero_add, Nat.le_refl, Nat.zero_le, List.length_cons, List.length_nil, true_and, and_true, true_or, or_true, eq_self, forall_const, true_implies, not_true_eq_false, not_false_eq_true, false_implies, implies_true, false_and, and_false, false_or, or_false, M0, R8, A204, L204, cl2, vi2, e204, h2, shN N (by omega), c1]
    exact hQ _ hs
  | succ k ih =>
    intro s b m hv hb hs hQ
    have e204 : m 204 = m0 204 := hs 204 (by omega)
    have c1 : (nI s < nI (2 ^ N)) = True := (ltN (by omega) (by omega)).trans (eq_true (by omega))
    rw [gmM] at hQ
    rw [xX6_guards_30]
    simp only [xX6_guards_31, xX6_guards_32, xX6_guards_33, xX6_guards_36, xX6_guards_37, xX6_guards_38, xX6_guards_39, xX6_guards_42, xX6_guards_43, xX6_guards_46, xX6_guards_47, xX6_guards_50, xX6_guards_51, xX6_guards_52, xX6_guards_53, xX6_guards_54, xX6_guards_56, xX6_guards_59, xX6_guards_60, xX6_guards_63, xX6_guards_64, xX6_guards_67, xX6_guards_70, xX6_guards_71, xX6_guards_72, xX6_guards_75, xX6_guards_77, xX6_guards_80, xX6_guards_81, xX6_guards_84, xX6_guards_85, xX6_guards_86, xX6_guards_89, xX6_guards_92, xX6_guards_93, Bool.false_eq_true, if_true, if_false, kl_i, kl_a, kl_s, kl_u, kl_l, okS_nil, okS_cons, cat_i, cat_a, cat_s, cat_l, Nat.reduceAdd, Nat.reduceLeDiff, Nat.reduceSub, Nat.sub_zero, Nat.sub_self, Nat.zero_add, Nat.le_refl, Nat.zero_le, List.length_cons, List.length_nil, true_and, and_true, true_or, or_true, eq_self, forall_const, true_implies, not_true_eq_false, not_false_eq_true, false_implies, implies_true, false_and, and_false, false_or, or_false, M0, R8, A204, L204, cl2, vi2, e204, h2, shN N (by omega), c1]
    refine t_tries hm0 ?_
    rw [e204]
    have hj : ∀ j, j < 40 → upd (cpA (m0 204) (m 210)) 4 (nI s) j = upd (m0 204) 4 (nI s) j := fun j hj => by
      unfold upd
      split
      · rfl
      · exact cpA_j _ _ hj
    have hu2 : upd (m0 204) 4 (nI s) 2 = nI N := by rw [upd_n _ _ (by decide)]; exact h2
    have tail : ∀ b', (b' = (if (b = -1000000 ∨ bts (nI s) < bts b) ∧ okG N n (m0 204) s = true then nI s else b)) → ∀ m1, scM m0 m1 → WX (tX6_guards K (d + 4)) Q (30, [.ref 199, .int (nI n), .int b', .int (nI (s + 1))], [], (0, 0), σ, m1, l) := by
      intro b' hb' m1 hs1
      subst hb'
      refine ih (s + 1) _ m1 (by omega) ?_ hs1 hQ
      split
      · exact Or.inr ⟨s, by omega, rfl⟩
      · exact hb
    have lack : (b = -1000000 ∨ bts (nI s) < bts b) → CT K (d + 4) YX6_lacksIn [.ref 199, .int (nI n)] σ (setR m 210 (upd (cpA (m0 204) (m 210)) 4 (nI s))) l (fun r σ' m1 l' => σ' = σ ∧ l' = l ∧ scM m0 m1 ∧ (r = -1000000 ↔ okG N n (m0 204) s = true)) := by
      intro _
      refine t_lacksIn hm0 h7 hn100 (by rw [hj 2 (by omega)]; exact hu2) ?_
      rw [liM_c h7 hu2 hj]
      exact ⟨rfl, rfl, scM_210 _ hs, ⟨fun g => decide_eq_true g, fun g => of_decide_eq_true g⟩⟩
    have fin : ∀ (hc : b = -1000000 ∨ bts (nI s) < bts b), CT K (d + 4) YX6_lacksIn [.ref 199, .int (nI n)] σ (setR m 210 (upd (cpA (m0 204) (m 210)) 4 (nI s))) l (fun r σ m l => (r = -1000000 → WX (tX6_guards K (d + 4)) Q (30, [.ref 199, .int (nI n), .int (nI s), .int (nI (s + 1))], [], (0, 0), σ, m, l)) ∧ (¬ r = -1000000 → WX (tX6_guards K (d + 4)) Q (30, [.ref 199, .int (nI n), .int b, .int (nI (s + 1))], [], (0, 0), σ, m, l))) := by
      intro hc
      refine (lack hc).mono (Nat.le_refl _) (fun r σ' m1 l' hq => ?_)
      obtain ⟨q1, q2, q3, q4⟩ := hq
      subst q1 q2
      refine ⟨fun g => tail _ ?_ m1 q3, fun g => tail _ ?_ m1 q3⟩
      · rw [if_pos ⟨hc, q4.mp g⟩]
      · rw [if_neg (fun e => g (q4.mpr e.2))]
    simp only [xX6_guards_31, xX6_guards_32, xX6_guards_33, xX6_guards_36, xX6_guards_37, xX6_guards_38, xX6_guards_39, xX6_guards_42, xX6_guards_43, xX6_guards_46, xX6_guards_47, xX6_guards_50, xX6_guards_51, xX6_guards_52, xX6_guards_53, xX6_guards_54, xX6_guards_56, xX6_guards_59, xX6_guards_60, xX6_guards_63, xX6_guards_64, xX6_guards_67, xX6_guards_70, xX6_guards_71, xX6_guards_72, xX6_guards_75, xX6_guards_77, xX6_guards_80, xX6_guards_81, xX6_guards_84, xX6_guards_85, xX6_guards_86, xX6_guards_89, xX6_guards_92, xX6_guards_93, Bool.false_eq_true, if_true, if_false, kl_i, kl_a, kl_s, kl_u, kl_l, okS_nil, okS_cons, cat_i, cat_a, cat_s, cat_l, Nat.reduceAdd, Nat.reduceLeDiff, Nat.reduceSub, Nat.sub_zero, Nat.sub_self, Nat.zero_add, Nat.le_refl, Nat.zero_le, List.length_cons, List.length_nil, true_and, and_true, true_or, or_true, eq_self, forall_const, true_implies, not_true_eq_false, not_false_eq_true, false_implies, implies_true, false_and, and_false, false_or, or_false, M0, R21, A210, L210, cl4, vi4, upM_setR, setR_s, setR_setR, nI1]
    refine ⟨fun g => fin (Or.inl g), fun g => ?_⟩
    obtain ⟨u, hu, eu⟩ := hb.resolve_left g
    refine t_bits (by omega) ?_
    subst eu
    refine t_bits hu ?_
    have tl := tail (nI u) 
    refine ⟨fun g2 => ⟨M0, fin (Or.inr g2)⟩, fun g2 => tl ?_ _ (scM_210 _ hs)⟩
    rw [if_neg (fun e => e.1.elim g g2)]
theorem p_guards {K : Cx} {σ : Sg} (hw : WF σ) (x : Int32) : PAIR K σ YX5_guards YX6_guards [.int x] := by
  intro m l h
  obtain ⟨wN, wR, wT, wA, wL, wM, wI⟩ := hw
  have hM := wM
  have hN := wN
  obtain ⟨H0, F0, F1, F2, F3, F4, F5, F6, F7, P33, P39, P45⟩ := wN
  obtain ⟨M0, R0, R1, R2, R4, R8, R10, R11, R12, R14, R20, R21, R22, A200, L200, A201, L201, A202, L202, A203, L203, A204, L204, A205, L205, A206, L206, A207, L207, A208, L208, A209, L209, A210, L210, A211, L211⟩ := wM
  obtain ⟨N, X, A, h7, hn, hb, ht, hz, hX, hA, a1, a2, a3, ha⟩ := h.2.2.2.2.1
  have modb : ∀ r, ((m 199 7 = 0 ∧ r = -1000002) ∨ (m 199 7 ≠ 0 ∧ ¬ (¬ x < 1 ∧ ¬ 20 < x) ∧ r = -1000001)) → CT K 12 YX6_guards [.ref 199, .int x] σ m l (fun r' σ2 m2 l2 => σ2 = σ ∧ r' = r ∧ RR m2) := by
    intro r hr
    refine kX6_guards ?_
    simp only [xX6_guards_0, xX6_guards_1, xX6_guards_4, xX6_guards_7, xX6_guards_9, xX6_guards_10, xX6_guards_11, xX6_guards_12, xX6_guards_13, xX6_guards_16, xX6_guards_19, xX6_guards_22, xX6_guards_24, xX6_guards_25, xX6_guards_27, xX6_guards_28, xX6_guards_29, Bool.false_eq_true, if_true, if_false, kl_i, kl_a, kl_s, kl_u, kl_l, okS_nil, okS_cons, cat_i, cat_a, cat_s, cat_l, Nat.reduceAdd, Nat.reduceLeDiff, Nat.reduceSub, Nat.sub_zero, Nat.sub_self, Nat.zero_add, Nat.le_refl, Nat.zero_le, List.length_cons, List.length_nil, true_and, and_true, true_or, or_true, eq_self, forall_const, true_implies, not_true_eq_false, not_false_eq_true, false_implies, implies_true, false_and, and_false, false_or, or_false, M0]
    rcases hr with ⟨g1, g2⟩ | ⟨g1, g2, g3⟩
    · exact ⟨fun _ => ⟨g2.symm, h⟩, fun g => absurd g1 g⟩
    · refine ⟨fun g => absurd g g1, fun _ => ?_⟩
      refine t_inI (a := 1) (b := 20) (by decide) (by decide) ?_
      rw [if_neg g2]
      simp only [xX6_guards_0, xX6_guards_1, xX6_guards_4, xX6_guards_7, xX6_guards_9, xX6_guards_10, xX6_guards_11, xX6_guards_12, xX6_guards_13, xX6_guards_16, xX6_guards_19, xX6_guards_22, xX6_guards_24, xX6_guards_25, xX6_guards_27, xX6_guards_28, xX6_guards_29, Bool.false_eq_true, if_true, if_false, kl_i, kl_a, kl_s, kl_u, kl_l, okS_nil, okS_cons, cat_i, cat_a, cat_s, cat_l, Nat.reduceAdd, Nat.reduceLeDiff, Nat.reduceSub, Nat.sub_zero, Nat.sub_self, Nat.zero_add, Nat.le_refl, Nat.zero_le, List.length_cons, List.length_nil, true_and, and_true, true_or, or_true, eq_self, forall_const, true_implies, not_true_eq_false, not_false_eq_true, false_implies, implies_true, false_and, and_false, false_or, or_false, M0]
      exact ⟨g3.symm, h⟩
  refine kX5_guards ?_
  simp only [xX5_guards_0, xX5_guards_1, xX5_guards_4, xX5_guards_7, xX5_guards_10, xX5_guards_12, xX5_guards_13, xX5_guards_14, xX5_guards_15, xX5_guards_18, xX5_guards_19, xX5_guards_21, xX5_guards_24, xX5_guards_26, xX5_guards_27, xX5_guards_28, Bool.false_eq_true, if_true, if_false, kl_i, kl_a, kl_s, kl_u, kl_l, okS_nil, okS_cons, cat_i, cat_a, cat_s, cat_l, Nat.reduceAdd, Nat.reduceLeDiff, Nat.reduceSub, Nat.sub_zero, Nat.sub_self, Nat.zero_add, Nat.le_refl, Nat.zero_le, List.length_cons, List.length_nil, true_and, and_true, true_or, or_true, eq_self, forall_const, true_implies, not_true_eq_false, not_false_eq_true, false_implies, implies_true, false_and, and_false, false_or, or_false, H0, F0, F1, F2, F3, F4, F5, F6, F7, P33.1, P39.1, P45.1]
  rw [ht]
  refine ⟨fun g => modb _ (Or.inl ⟨g, rfl⟩), fun g0 => ?_⟩
  by_cases hx0 : x < 1
  · exact ⟨fun _ => modb _ (Or.inr ⟨g0, fun g => g.1 hx0, rfl⟩), fun g => absurd hx0 g⟩
  refine ⟨fun g => absurd g hx0, fun _ => ?_⟩
  by_cases hx1 : 20 < x
  · exact ⟨fun _ => modb _ (Or.inr ⟨g0, fun g => g.2 hx1, rfl⟩), fun g => absurd hx1 g⟩
  refine ⟨fun g => absurd g hx1, fun _ => ?_⟩
  obtain ⟨n, n1, n2, e⟩ := rng (a := 1) (b := 20) (by omega) (by omega) ⟨hx0, hx1⟩
  subst e
  refine l_gc (d := 5) hN h7 (by omega) hn (N + 1) 0 m _ (by omega) (scr_r m) (fun m1 hs1 => ?_)
  have e199 : m1 199 = m 199 := hs1 199 (by omega)
  have e204 : m1 204 = m 204 := hs1 204 (by omega)
  refine ⟨rfl, kX6_guards ?_⟩
  simp only [xX6_guards_0, xX6_guards_1, xX6_guards_4, xX6_guards_7, xX6_guards_9, xX6_guards_10, xX6_guards_11, xX6_guards_12, xX6_guards_13, xX6_guards_16, xX6_guards_19, xX6_guards_22, xX6_guards_24, xX6_guards_25, xX6_guards_27, xX6_guards_28, xX6_guards_29, Bool.false_eq_true, if_true, if_false, kl_i, kl_a, kl_s, kl_u, kl_l, okS_nil, okS_cons, cat_i, cat_a, cat_s, cat_l, Nat.reduceAdd, Nat.reduceLeDiff, Nat.reduceSub, Nat.sub_zero, Nat.sub_self, Nat.zero_add, Nat.le_refl, Nat.zero_le, List.length_cons, List.length_nil, true_and, and_true, true_or, or_true, eq_self, forall_const, true_implies, not_true_eq_false, not_false_eq_true, false_implies, implies_true, false_and, and_false, false_or, or_false, M0, e199]
  refine ⟨fun g => absurd g g0, fun _ => ?_⟩
  refine t_inI (a := 1) (b := 20) (by decide) (by decide) ?_
  rw [if_pos ⟨hx0, hx1⟩]
  simp only [xX6_guards_0, xX6_guards_1, xX6_guards_4, xX6_guards_7, xX6_guards_9, xX6_guards_10, xX6_guards_11, xX6_guards_12, xX6_guards_13, xX6_guards_16, xX6_guards_19, xX6_guards_22, xX6_guards_24, xX6_guards_25, xX6_guards_27, xX6_guards_28, xX6_guards_29, Bool.false_eq_true, if_true, if_false, kl_i, kl_a, kl_s, kl_u, kl_l, okS_nil, okS_cons, cat_i, cat_a, cat_s, cat_l, Nat.reduceAdd, Nat.reduceLeDiff, Nat.reduceSub, Nat.sub_zero, Nat.sub_self, Nat.zero_add, Nat.le_refl, Nat.zero_le, List.length_cons, List.length_nil, true_and, and_true, true_or, or_true, eq_self, forall_const, true_implies, not_true_eq_false, not_false_eq_true, false_implies, implies_true, false_and, and_false, false_or, or_false, M0, i10]
  refine l_mgm (d := 7) (m0 := m1) hM h7 (by omega) (by rw [e204]; exact now_2 hn) (2 ^ N) 0 _ m1 (by omega) (Or.inl rfl) (scM_r _) (fun m2 hs2 => ?_)
  rw [e204]
  exact ⟨rfl, (gd_same h7).symm, RR_sc h hs1 hs2⟩
