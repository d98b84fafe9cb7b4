/-! calls: count -/
theorem nI7 {y : Int32} (h : ¬ y < 0 ∧ y < 7) : ∃ v : Nat, v < 7 ∧ y = nI v := nat_of (N := 7) (by omega) h.1 h.2
theorem rc_c {f g : Nat → Bool} : ∀ (k v : Nat) (c : Int32), (∀ w, v ≤ w → w < v + k → f w = g w) → rcL f k v c = rcL g k v c := by
  intro k
  induction k with
  | zero => intro v c _; rfl
  | succ k ih =>
    intro v c h
    simp only [rcL]
    rw [h v (by omega) (by omega), ih _ _ (fun w h1 h2 => h w (by omega) (by omega))]
theorem l_c1 {K : Cx} {d : Nat} {σ : Sg} {m : Mm} {l : Ml} {x e3 e4 : Int32} {Q : Rt} (hm : wfM σ) : ∀ (k r : Nat) (c : Int32), r + k = 8 → WX (tX6_count K d) Q (41, [.ref 199, .int x, .int (rcL (fun r => decide (¬ m 201 r < 0)) k r c), .int e3, .int e4, .int (nI 8)], [], (0, 0), σ, m, l) → WX (tX6_count K d) Q (10, [.ref 199, .int x, .int c, .int e3, .int e4, .int (nI r)], [], (0, 0), σ, m, l) := by
  obtain ⟨M0, R0, R1, R2, R4, R8, R10, R11, R12, R14, R20, R21, R22, A200, L200, A201, L201, A202, L202, A203, L203, A204, L204, A205, L205, A206, L206, A207, L207, A208, L208, A209, L209, A210, L210, A211, L211⟩ := hm
  intro k
  induction k with
  | zero =>
    intro r c hv hQ
    have e : r = 8 := by omega
    subst e
    have c1 : (nI 8 < 8) = False := eq_false (by decide)
    rw [xX6_count_10]
    simp only [xX6_count_12, xX6_count_14, Bool.false_eq_true, if_true, if_false, kl_i, kl_a, kl_s, kl_u, kl_l, okS_nil, okS_cons, cat_i, cat_a, cat_s, cat_l, Nat.reduceAdd, Nat.reduceLeDiff, Nat.reduceSub, Nat.sub_zero, Nat.sub_self, Nat.zero_add, Nat.le_refl, Nat.zero_le, List.length_cons, List.length_nil, true_and, and_true, true_or, or_true, eq_self, forall_const, true_implies, not_true_eq_false, not_false_eq_true, false_implies, implies_true, false_and, and_false, false_or, or_false, c1]
    exact hQ
  | succ k ih =>
    intro r c hv hQ
    have c1 : (nI r < 8) = True := (ltN (a := r) (b := 8) (by omega) (by omega)).trans (eq_true (by omega))
    have hcv := clN (v := r) (by omega)
    have hiv := inN (v := r) (n := 8) (by omega) (by omega)
    rw [xX6_count_10]
    rw [rcL] at hQ
    by_cases h : m 201 r < 0
    · have e : decide (¬ m 201 r < 0) = false := decide_eq_false (fun g => g h)
      rw [e] at hQ
      simp only [xX6_count_12, xX6_count_14, xX6_count_17, xX6_count_18, xX6_count_19, xX6_count_22, xX6_count_24, xX6_count_25, xX6_count_28, xX6_count_29, xX6_count_32, xX6_count_33, xX6_count_34, xX6_count_35, xX6_count_38, Bool.false_eq_true, if_true, if_false, kl_i, kl_a, kl_s, kl_u, kl_l, okS_nil, okS_cons, cat_i, cat_a, cat_s, cat_l, Nat.reduceAdd, Nat.reduceLeDiff, Nat.reduceSub, Nat.sub_zero, Nat.sub_self, Nat.zero_add, Nat.le_refl, Nat.zero_le, List.length_cons, List.length_nil, true_and, and_true, true_or, or_true, eq_self, forall_const, true_implies, not_true_eq_false, not_false_eq_true, false_implies, implies_true, false_and, and_false, false_or, or_false, c1, M0, R1, A201, L201, hcv, hiv, h, nI1, Int32.add_zero] at hQ ⊢
      exact ih (r + 1) _ (by omega) hQ
    · have e : decide (¬ m 201 r < 0) = true := decide_eq_true h
      rw [e] at hQ
      simp only [xX6_count_12, xX6_count_14, xX6_count_17, xX6_count_18, xX6_count_19, xX6_count_22, xX6_count_24, xX6_count_25, xX6_count_28, xX6_count_29, xX6_count_32, xX6_count_33, xX6_count_34, xX6_count_35, xX6_count_38, Bool.false_eq_true, if_true, if_false, kl_i, kl_a, kl_s, kl_u, kl_l, okS_nil, okS_cons, cat_i, cat_a, cat_s, cat_l, Nat.reduceAdd, Nat.reduceLeDiff, Nat.reduceSub, Nat.sub_zero, Nat.sub_self, Nat.zero_add, Nat.le_refl, Nat.zero_le, List.length_cons, List.length_nil, true_and, and_true, true_or, or_true, eq_self, forall_const, true_implies, not_true_eq_false, not_false_eq_true, false_implies, implies_true, false_and, and_false, false_or, or_false, c1, M0, R1, A201, L201, hcv, hiv, h, nI1] at hQ ⊢
      exact ih (r + 1) _ (by omega) hQ
theorem l_c2 {K : Cx} {d : Nat} {σ : Sg} {m : Mm} {l : Ml} {N : Nat} {x e2 : Int32} {Q : Rt} (hm : wfM σ) (h7 : N ≤ 7) (hN : m 204 2 = nI N) : ∀ (k v : Nat) (s t : Int32), v + k = N → WX (tX6_count K d) Q (89, [.ref 199, .int x, .int e2, .int (smF (fun v => m 204 (26 + v)) v k s), .int (smF (fun v => m 204 (33 + v)) v k t), .int (nI N)], [], (0, 0), σ, m, l) → WX (tX6_count K d) Q (44, [.ref 199, .int x, .int e2, .int s, .int t, .int (nI v)], [], (0, 0), σ, m, l) := by
  obtain ⟨M0, R0, R1, R2, R4, R8, R10, R11, R12, R14, R20, R21, R22, A200, L200, A201, L201, A202, L202, A203, L203, A204, L204, A205, L205, A206, L206, A207, L207, A208, L208, A209, L209, A210, L210, A211, L211⟩ := hm
  intro k
  induction k with
  | zero =>
    intro v s t hv hQ
    have e : v = N := by omega
    subst e
    have c1 : (nI v < nI v) = False := (ltN (by omega) (by omega)).trans (eq_false (by omega))
    rw [xX6_count_44]
    simp only [xX6_count_46, xX6_count_47, xX6_count_50, xX6_count_51, xX6_count_52, Bool.false_eq_true, if_true, if_false, kl_i, kl_a, kl_s, kl_u, kl_l, okS_nil, okS_cons, cat_i, cat_a, cat_s, cat_l, Nat.reduceAdd, Nat.reduceLeDiff, Nat.reduceSub, Nat.sub_zero, Nat.sub_self, Nat.zero_add, Nat.le_refl, Nat.zero_le, List.length_cons, List.length_nil, true_and, and_true, true_or, or_true, eq_self, forall_const, true_implies, not_true_eq_false, not_false_eq_true, false_implies, implies_true, false_and, and_false, false_or, or_false, M0, R8, A204, L204, cl2, vi2, hN, c1]
    exact hQ
  | succ k ih =>
    intro v s t hv hQ
    have c1 : (nI v < nI N) = True := (ltN (by omega) (by omega)).trans (eq_true (by omega))
    have c26 := clN (v := 26 + v) (by omega)
    have v26 := inN (v := 26 + v) (n := 40) (by omega) (by omega)
    have c33 := clN (v := 33 + v) (by omega)
    have v33 := inN (v := 33 + v) (n := 40) (by omega) (by omega)
    rw [xX6_count_44]
    simp only [xX6_count_46, xX6_count_47, xX6_count_50, xX6_count_51, xX6_count_52, xX6_count_55, xX6_count_56, xX6_count_57, xX6_count_60, xX6_count_62, xX6_count_64, xX6_count_65, xX6_count_66, xX6_count_67, xX6_count_68, xX6_count_70, xX6_count_71, xX6_count_74, xX6_count_76, xX6_count_78, xX6_count_79, xX6_count_80, xX6_count_81, xX6_count_83, xX6_count_86, Bool.false_eq_true, if_true, if_false, kl_i, kl_a, kl_s, kl_u, kl_l, okS_nil, okS_cons, cat_i, cat_a, cat_s, cat_l, Nat.reduceAdd, Nat.reduceLeDiff, Nat.reduceSub, Nat.sub_zero, Nat.sub_self, Nat.zero_add, Nat.le_refl, Nat.zero_le, List.length_cons, List.length_nil, true_and, and_true, true_or, or_true, eq_self, forall_const, true_implies, not_true_eq_false, not_false_eq_true, false_implies, implies_true, false_and, and_false, false_or, or_false, M0, R8, A204, L204, cl2, vi2, hN, c1, k26, c26, v26, k33, c33, v33, nI1]
    simp only [smF] at hQ
    exact ih (v + 1) _ _ (by omega) hQ
theorem p_count {K : Cx} {σ : Sg} (hw : WF σ) (x : Int32) : PAIR K σ YX5_count YX6_count [.int x] := by
  intro m l h
  obtain ⟨wN, wR, wT, wA, wL, wM, wI⟩ := hw
  have hM := wM
  have hN := wN
  have hA51 := wA
  have hT := wT
  obtain ⟨H0, F0, F1, F2, F3, F4, F5, F6, F7, P33, P39, P45⟩ := wN
  obtain ⟨M0, R0, R1, R2, R4, R8, R10, R11, R12, R14, R20, R21, R22, A200, L200, A201, L201, A202, L202, A203, L203, A204, L204, A205, L205, A206, L206, A207, L207, A208, L208, A209, L209, A210, L210, A211, L211⟩ := wM
  obtain ⟨N, X, A, h7, hn, hb, ht, hz, hX, hA, a1, a2, a3, ha⟩ := h.2.2.2.2.1
  obtain ⟨T, B, P, u1, u2, u3, u4, u5⟩ := h.2.2.2.1
  have h8 : m 33 8 = nI N := hn.2.1
  have h2 := now_2 hn
  have e9 : m 33 9 = m 204 3 := hn.1.2.2.2.1
  have mod : ∀ r, ((x = 0 → rcL (fun r => decide (¬ m 201 r < 0)) 8 0 0 = r) ∧ (x = 1 → nI N = r) ∧ (x = 2 → m 204 3 = r) ∧ (x = 3 → smF (fun v => m 204 (26 + v)) 0 N 0 = r) ∧ (x = 4 → nI A = r) ∧ (x = 5 → smF (fun v => m 204 (33 + v)) 0 N 0 = r) ∧ (x = 6 → nI T = r)) → ((x ≠ 0 ∧ x ≠ 1 ∧ x ≠ 2 ∧ x ≠ 3 ∧ x ≠ 4 ∧ x ≠ 5 ∧ x ≠ 6) → r = -1000001) → CT K 12 YX6_count [.ref 199, .int x] σ m l (fun r' σ2 m2 l2 => σ2 = σ ∧ r' = r ∧ RR m2) := by
    intro r hq hbad
    obtain ⟨q0, q1, q2, q3, q4, q5, q6⟩ := hq
    refine kX6_count ?_
    simp only [xX6_count_0, xX6_count_1, xX6_count_2, xX6_count_3, xX6_count_4, xX6_count_5, xX6_count_7, xX6_count_8, Bool.false_eq_true, if_true, if_false, kl_i, kl_a, kl_s, kl_u, kl_l, okS_nil, okS_cons, cat_i, cat_a, cat_s, cat_l, Nat.reduceAdd, Nat.reduceLeDiff, Nat.reduceSub, Nat.sub_zero, Nat.sub_self, Nat.zero_add, Nat.le_refl, Nat.zero_le, List.length_cons, List.length_nil, true_and, and_true, true_or, or_true, eq_self, forall_const, true_implies, not_true_eq_false, not_false_eq_true, false_implies, implies_true, false_and, and_false, false_or, or_false]
    refine l_c1 hM 8 0 0 (by omega) ?_
    simp only [xX6_count_41, xX6_count_42, Bool.false_eq_true, if_true, if_false, kl_i, kl_a, kl_s, kl_u, kl_l, okS_nil, okS_cons, cat_i, cat_a, cat_s, cat_l, Nat.reduceAdd, Nat.reduceLeDiff, Nat.reduceSub, Nat.sub_zero, Nat.sub_self, Nat.zero_add, Nat.le_refl, Nat.zero_le, List.length_cons, List.length_nil, true_and, and_true, true_or, or_true, eq_self, forall_const, true_implies, not_true_eq_false, not_false_eq_true, false_implies, implies_true, false_and, and_false, false_or, or_false]
    refine l_c2 hM h7 h2 N 0 0 0 (by omega) ?_
    have v3 : vp_in 3 40 = True := vi3
    simp only [xX6_count_89, xX6_count_90, xX6_count_132, xX6_count_133, xX6_count_134, xX6_count_135, xX6_count_138, xX6_count_139, xX6_count_140, xX6_count_141, xX6_count_142, xX6_count_145, xX6_count_146, xX6_count_147, xX6_count_148, xX6_count_149, xX6_count_150, xX6_count_151, xX6_count_154, xX6_count_155, xX6_count_157, xX6_count_158, xX6_count_159, xX6_count_162, xX6_count_163, xX6_count_165, Bool.false_eq_true, if_true, if_false, kl_i, kl_a, kl_s, kl_u, kl_l, okS_nil, okS_cons, cat_i, cat_a, cat_s, cat_l, Nat.reduceAdd, Nat.reduceLeDiff, Nat.reduceSub, Nat.sub_zero, Nat.sub_self, Nat.zero_add, Nat.le_refl, Nat.zero_le, List.length_cons, List.length_nil, true_and, and_true, true_or, or_true, eq_self, forall_const, true_implies, not_true_eq_false, not_false_eq_true, false_implies, implies_true, false_and, and_false, false_or, or_false, M0, R8, A204, L204, cl2, vi2, cl3, vi3, h2, a3, u4]
    refine ⟨fun e => ⟨q0 e, h⟩, fun n0 => ⟨fun e => ⟨q1 e, h⟩, fun n1 => ⟨fun e => ⟨q2 e, h⟩, fun n2 => ⟨fun e => ⟨q3 e, h⟩, fun n3 => ⟨fun e => ⟨q4 e, h⟩, fun n4 => ⟨fun e => ⟨q5 e, h⟩, fun n5 => ⟨fun e => ⟨q6 e, h⟩, fun n6 => ⟨(hbad ⟨n0, n1, n2, n3, n4, n5, n6⟩).symm, h⟩⟩⟩⟩⟩⟩⟩⟩
  have er : rcL (fun r => decide (¬ m 201 r < 0)) 8 0 0 = rcL (fun r => decide (m (2 + 2 * r) 1 ≠ 0)) 8 0 0 := rc_c 8 0 0 (fun r _ hr => by
    rcases rw_there (h.1 r (by omega)) with ⟨t1, t2⟩ | ⟨t1, t2⟩
    · rw [decide_eq_false (fun g => g t2), decide_eq_false (fun g => g t1)]
    · rw [decide_eq_true t2, decide_eq_true t1])
  have ef : smF (fun v => m 204 (26 + v)) 0 N 0 = smF (m 35) 0 N 0 := smF_c N 0 0 (fun w _ hw => ((hn.1.2.2.2.2.2.1 w (by omega)).2.2.2).symm)
  have el : smF (fun v => m 204 (33 + v)) 0 N 0 = smF (m 38) 0 N 0 := smF_c N 0 0 (fun w _ hw => (hn.1.2.2.2.2.2.2 w (by omega) trivial).symm)
  refine kX5_count ?_
  obtain ⟨hO, r0, r1, r2, r3, r4, o1, o2, o3, o4, o5, l1, l2, l3, l4, l5⟩ := P33
  simp only [xX5_count_0, xX5_count_1, xX5_count_44, xX5_count_45, xX5_count_48, xX5_count_49, xX5_count_50, xX5_count_53, xX5_count_56, xX5_count_57, xX5_count_58, xX5_count_61, xX5_count_64, xX5_count_65, xX5_count_66, xX5_count_69, xX5_count_70, xX5_count_73, xX5_count_76, xX5_count_79, xX5_count_80, xX5_count_81, xX5_count_84, xX5_count_87, xX5_count_88, xX5_count_89, xX5_count_92, xX5_count_93, xX5_count_96, xX5_count_99, xX5_count_102, xX5_count_103, xX5_count_104, xX5_count_107, xX5_count_110, xX5_count_111, xX5_count_113, Bool.false_eq_true, if_true, if_false, kl_i, kl_a, kl_s, kl_u, kl_l, okS_nil, okS_cons, cat_i, cat_a, cat_s, cat_l, Nat.reduceAdd, Nat.reduceLeDiff, Nat.reduceSub, Nat.sub_zero, Nat.sub_self, Nat.zero_add, Nat.le_refl, Nat.zero_le, List.length_cons, List.length_nil, true_and, and_true, true_or, or_true, eq_self, forall_const, true_implies, not_true_eq_false, not_false_eq_true, false_implies, implies_true, false_and, and_false, false_or, or_false, H0, F2, F5, F1, hO, r0, r1, r2, r3, r4, o1, o2, o3, o4, o5, l1, l2, l3, l4, l5, hA51.1, hT.1, h8, e9, a2, u3]
  refine ⟨fun e => ?_, fun n0 => ⟨fun e => ?_, fun n1 => ⟨fun e => ?_, fun n2 => ⟨fun e => ?_, fun n3 => ⟨fun e => ?_, fun n4 => ⟨fun e => ?_, fun n5 => ⟨fun e => ?_, fun n6 => ?_⟩⟩⟩⟩⟩⟩⟩
  · refine t_rowsThere hN wR ?_
    exact ⟨rfl, mod _ ⟨fun _ => er, fun g => absurd (e.symm.trans g) (by decide), fun g => absurd (e.symm.trans g) (by decide), fun g => absurd (e.symm.trans g) (by decide), fun g => absurd (e.symm.trans g) (by decide), fun g => absurd (e.symm.trans g) (by decide), fun g => absurd (e.symm.trans g) (by decide)⟩ (fun g => absurd e g.1)⟩
  · exact mod _ ⟨fun g => absurd g n0, fun _ => rfl, fun g => absurd (e.symm.trans g) (by decide), fun g => absurd (e.symm.trans g) (by decide), fun g => absurd (e.symm.trans g) (by decide), fun g => absurd (e.symm.trans g) (by decide), fun g => absurd (e.symm.trans g) (by decide)⟩ (fun g => absurd e g.2.1)
  · exact mod _ ⟨fun g => absurd g n0, fun g => absurd g n1, fun _ => rfl, fun g => absurd (e.symm.trans g) (by decide), fun g => absurd (e.symm.trans g) (by decide), fun g => absurd (e.symm.trans g) (by decide), fun g => absurd (e.symm.trans g) (by decide)⟩ (fun g => absurd e g.2.2.1)
  · refine t_sum (N := N) hO o2 l2 h8 h7 ?_
    exact ⟨rfl, mod _ ⟨fun g => absurd g n0, fun g => absurd g n1, fun g => absurd g n2, fun _ => ef, fun g => absurd (e.symm.trans g) (by decide), fun g => absurd (e.symm.trans g) (by decide), fun g => absurd (e.symm.trans g) (by decide)⟩ (fun g => absurd e g.2.2.2.1)⟩
  · exact mod _ ⟨fun g => absurd g n0, fun g => absurd g n1, fun g => absurd g n2, fun g => absurd g n3, fun _ => rfl, fun g => absurd (e.symm.trans g) (by decide), fun g => absurd (e.symm.trans g) (by decide)⟩ (fun g => absurd e g.2.2.2.2.1)
  · refine t_sum (N := N) hO o5 l5 h8 h7 ?_
    exact ⟨rfl, mod _ ⟨fun g => absurd g n0, fun g => absurd g n1, fun g => absurd g n2, fun g => absurd g n3, fun g => absurd g n4, fun _ => el, fun g => absurd (e.symm.trans g) (by decide)⟩ (fun g => absurd e g.2.2.2.2.2.1)⟩
  · exact mod _ ⟨fun g => absurd g n0, fun g => absurd g n1, fun g => absurd g n2, fun g => absurd g n3, fun g => absurd g n4, fun g => absurd g n5, fun _ => rfl⟩ (fun g => absurd e g.2.2.2.2.2.2)
  · exact mod _ ⟨fun g => absurd g n0, fun g => absurd g n1, fun g => absurd g n2, fun g => absurd g n3, fun g => absurd g n4, fun g => absurd g n5, fun g => absurd g n6⟩ (fun _ => rfl)
