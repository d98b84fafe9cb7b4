/-! calls that foretell: where -/
def whM (N n : Nat) (a : Nat → Int32) (f : Int32) : Nat → Nat → Nat → Int32 → Nat × Int32
  | 0, _, b, s => (b, s)
  | k + 1, v, b, s => if lfM N n a v f < s then whM N n a f k (v + 1) v (lfM N n a v f) else whM N n a f k (v + 1) b s
theorem l_wh {K : Cx} {d : Nat} {σ : Sg} {m0 : Mm} {l : Ml} {N n : Nat} {a : Nat → Int32} {f z : Int32} {Q : Rt} (hw : wfN σ) (h7 : N ≤ 7) (hn100 : n ≤ 100) (hn : nowH N m0 a) : ∀ (k v b : Nat) (s : Int32) (m : Mm) (e7 : Value), v + k = N → scr m0 m →
    (∀ m', scr m0 m' → Q (if z = 0 then nI (whM N n a f k v b s).1 else (whM N n a f k v b s).2) σ m' l) → WX (tX5_where K (d + 6)) Q (62, [.ref 0, .int f, .int (nI n), .int z, .int (nI b), .int s, .int (nI v), e7], [], (0, 0), σ, m, l) := by
  have hw0 := hw
  obtain ⟨H0, F0, F1, F2, F3, F4, F5, F6, F7, P33, P39, P45⟩ := hw
  intro k
  induction k with
  | zero =>
    intro v b s m e7 hv hs hQ
    have h8 : m 33 8 = nI N := (nowH_scr hs hn).2.1
    have c1 : (nI v < nI N) = False := (ltN (by omega) (by omega)).trans (eq_false (by omega))
    rw [xX5_where_62]
    simp only [xX5_where_64, xX5_where_65, xX5_where_68, xX5_where_71, xX5_where_74, xX5_where_75, xX5_where_77, xX5_where_78, xX5_where_79, xX5_where_82, xX5_where_84, xX5_where_86, xX5_where_88, xX5_where_91, xX5_where_93, xX5_where_95, xX5_where_97, xX5_where_99, xX5_where_102, xX5_where_105, xX5_where_106, xX5_where_109, xX5_where_111, xX5_where_114, xX5_where_116, Bool.false_eq_true, if_true, if_false, kl_i, kl_a, kl_s, kl_u, kl_l, okS_nil, okS_cons, cat_i, cat_a, cat_s, cat_l, Nat.reduceAdd, Nat.reduceLeDiff, Nat.reduceSub, Nat.sub_zero, Nat.sub_self, Nat.zero_add, Nat.le_refl, Nat.zero_le, List.length_cons, List.length_nil, true_and, and_true, true_or, or_true, eq_self, forall_const, true_implies, not_true_eq_false, not_false_eq_true, false_implies, implies_true, false_and, and_false, false_or, or_false, H0, F0, F1, F2, F3, F4, F5, F6, F7, P33.1, P39.1, P45.1, h8, c1]
    have := hQ _ hs
    by_cases hz : z = 0
    · rw [if_pos hz] at this
      exact ⟨fun _ => this, fun g => absurd hz g⟩
    · rw [if_neg hz] at this
      exact ⟨fun g => absurd g hz, fun _ => this⟩
  | succ k ih =>
    intro v b s m e7 hv hs hQ
    have h8 : m 33 8 = nI N := (nowH_scr hs hn).2.1
    have c1 : (nI v < nI N) = True := (ltN (by omega) (by omega)).trans (eq_true (by omega))
    rw [xX5_where_62]
    simp only [xX5_where_64, xX5_where_65, xX5_where_68, xX5_where_71, xX5_where_74, xX5_where_75, xX5_where_77, xX5_where_78, xX5_where_79, xX5_where_82, xX5_where_84, xX5_where_86, xX5_where_88, xX5_where_91, xX5_where_93, xX5_where_95, xX5_where_97, xX5_where_99, xX5_where_102, xX5_where_105, xX5_where_106, xX5_where_109, xX5_where_111, xX5_where_114, xX5_where_116, Bool.false_eq_true, if_true, if_false, kl_i, kl_a, kl_s, kl_u, kl_l, okS_nil, okS_cons, cat_i, cat_a, cat_s, cat_l, Nat.reduceAdd, Nat.reduceLeDiff, Nat.reduceSub, Nat.sub_zero, Nat.sub_self, Nat.zero_add, Nat.le_refl, Nat.zero_le, List.length_cons, List.length_nil, true_and, and_true, true_or, or_true, eq_self, forall_const, true_implies, not_true_eq_false, not_false_eq_true, false_implies, implies_true, false_and, and_false, false_or, or_false, H0, F0, F1, F2, F3, F4, F5, F6, F7, P33.1, P39.1, P45.1, h8, c1]
    refine t_lackedWithMoreFlow hw0 h7 (by omega) hn100 hn hs (fun m' hs' => ?_)
    simp only [xX5_where_64, xX5_where_65, xX5_where_68, xX5_where_71, xX5_where_74, xX5_where_75, xX5_where_77, xX5_where_78, xX5_where_79, xX5_where_82, xX5_where_84, xX5_where_86, xX5_where_88, xX5_where_91, xX5_where_93, xX5_where_95, xX5_where_97, xX5_where_99, xX5_where_102, xX5_where_105, xX5_where_106, xX5_where_109, xX5_where_111, xX5_where_114, xX5_where_116, Bool.false_eq_true, if_true, if_false, kl_i, kl_a, kl_s, kl_u, kl_l, okS_nil, okS_cons, cat_i, cat_a, cat_s, cat_l, Nat.reduceAdd, Nat.reduceLeDiff, Nat.reduceSub, Nat.sub_zero, Nat.sub_self, Nat.zero_add, Nat.le_refl, Nat.zero_le, List.length_cons, List.length_nil, true_and, and_true, true_or, or_true, eq_self, forall_const, true_implies, not_true_eq_false, not_false_eq_true, false_implies, implies_true, false_and, and_false, false_or, or_false, nI1]
    rw [whM] at hQ
    by_cases hc : lfM N n a v f < s
    · rw [if_pos hc] at hQ
      exact ⟨fun _ => ih (v + 1) v _ m' _ (by omega) hs' hQ, fun g => absurd hc g⟩
    · rw [if_neg hc] at hQ
      exact ⟨fun g => absurd g hc, fun _ => ih (v + 1) b s m' _ (by omega) hs' hQ⟩
theorem lf_c {N n v : Nat} {a g : Nat → Int32} {f : Int32} (h7 : N ≤ 7) (hv : v < N) (h2 : a 2 = nI N) : smF (fun w => gosM N n (z3 (upd (cpA a g) (12 + v) (cpA a g (12 + v) + f)) N) (33 + w)) 0 N 0 = lfM N n a v f := by
  refine smF_c N 0 0 (fun w _ hw => ?_)
  refine gosM_c h7 ?_ (fun j hj => ?_) (by omega)
  · show z3 (upd a (12 + v) (a (12 + v) + f)) N 2 = nI N
    unfold z3
    rw [if_neg (by omega), upd_n _ _ (by omega)]
    exact h2
  · unfold z3
    by_cases h : 33 ≤ j ∧ j < 33 + N
    · rw [if_pos h, if_pos h]
    · rw [if_neg h, if_neg h]
      unfold upd
      by_cases h3 : j = 12 + v
      · rw [if_pos h3, if_pos h3, cpA_j _ _ (by omega)]
      · rw [if_neg h3, if_neg h3, cpA_j _ _ hj]
theorem nb {b : Nat} (h : b < 7) : ¬ (nI b = -1000000) := (by decide +kernel : ∀ b : Nat, b < 7 → ¬ (nI b = -1000000)) b h
theorem l_mwh {K : Cx} {d : Nat} {σ : Sg} {m0 : Mm} {l : Ml} {N n : Nat} {f z : Int32} {Q : Rt} (hm : wfM σ) (h7 : N ≤ 7) (hn100 : n ≤ 100) (h2 : m0 204 2 = nI N) : ∀ (k v b : Nat) (s : Int32) (m : Mm) (e7 : Value), v + k = N → b < 7 → scM m0 m →
    (∀ m', scM m0 m' → Q (if z = 0 then nI (whM N n (m0 204) f k v b s).1 else (whM N n (m0 204) f k v b s).2) σ m' l) → WX (tX6_where K (d + 4)) Q (59, [.ref 199, .int f, .int (nI n), .int z, .int (nI b), .int s, .int (nI v), e7], [], (0, 0), σ, m, l) := by
  have hm0 := hm
  obtain ⟨M0, R0, R1, R2, R4, R8, R10, R11, R12, R14, R20, R21, R22, A200, L200, A201, L201, A202, L202, A203, L203, A204, L204, A205, L205, A206, L206, A207, L207, A208, L208, A209, L209, A210, L210, A211, L211⟩ := hm
  intro k
  induction k with
  | zero =>
    intro v b s m e7 hv hb7 hs hQ
    have e204 : m 204 = m0 204 := hs 204 (by omega)
    have c1 : (nI v < nI N) = False := (ltN (by omega) (by omega)).trans (eq_false (by omega))
    rw [xX6_where_59]
    simp only [xX6_where_61, xX6_where_62, xX6_where_65, xX6_where_66, xX6_where_67, xX6_where_70, xX6_where_71, xX6_where_74, xX6_where_75, xX6_where_78, xX6_where_80, xX6_where_82, xX6_where_83, xX6_where_84, xX6_where_85, xX6_where_86, xX6_where_87, xX6_where_88, xX6_where_89, xX6_where_90, xX6_where_93, xX6_where_95, xX6_where_97, xX6_where_99, xX6_where_102, xX6_where_104, xX6_where_106, xX6_where_109, xX6_where_111, xX6_where_113, xX6_where_115, xX6_where_117, xX6_where_120, xX6_where_123, xX6_where_124, xX6_where_127, xX6_where_129, xX6_where_132, xX6_where_134, Bool.false_eq_true, if_true, if_false, kl_i, kl_a, kl_s, kl_u, kl_l, okS_nil, okS_cons, cat_i, cat_a, cat_s, cat_l, Nat.reduceAdd, Nat.reduceLeDiff, Nat.reduceSub, Nat.sub_zero, Nat.sub_self, Nat.zero_add, Nat.le_refl, Nat.zero_le, List.length_cons, List.length_nil, true_and, and_true, true_or, or_true, eq_self, forall_const, true_implies, not_true_eq_false, not_false_eq_true, false_implies, implies_true, false_and, and_false, false_or, or_false, M0, R8, A204, L204, cl2, vi2, e204, h2, c1]
    have := hQ _ hs
    by_cases hz : z = 0
    · rw [if_pos hz] at this
      exact ⟨fun _ => this, fun g => absurd hz g⟩
    · rw [if_neg hz] at this
      exact ⟨fun g => absurd g hz, fun _ => this⟩
  | succ k ih =>
    intro v b s m e7 hv hb7 hs hQ
    have e204 : m 204 = m0 204 := hs 204 (by omega)
    have c1 : (nI v < nI N) = True := (ltN (by omega) (by omega)).trans (eq_true (by omega))
    have c12 := clN (v := 12 + v) (by omega)
    have v12 := inN (v := 12 + v) (n := 40) (by omega) (by omega)
    rw [xX6_where_59]
    simp only [xX6_where_61, xX6_where_62, xX6_where_65, xX6_where_66, xX6_where_67, xX6_where_70, xX6_where_71, xX6_where_74, xX6_where_75, xX6_where_78, xX6_where_80, xX6_where_82, xX6_where_83, xX6_where_84, xX6_where_85, xX6_where_86, xX6_where_87, xX6_where_88, xX6_where_89, xX6_where_90, xX6_where_93, xX6_where_95, xX6_where_97, xX6_where_99, xX6_where_102, xX6_where_104, xX6_where_106, xX6_where_109, xX6_where_111, xX6_where_113, xX6_where_115, xX6_where_117, xX6_where_120, xX6_where_123, xX6_where_124, xX6_where_127, xX6_where_129, xX6_where_132, xX6_where_134, Bool.false_eq_true, if_true, if_false, kl_i, kl_a, kl_s, kl_u, kl_l, okS_nil, okS_cons, cat_i, cat_a, cat_s, cat_l, Nat.reduceAdd, Nat.reduceLeDiff, Nat.reduceSub, Nat.sub_zero, Nat.sub_self, Nat.zero_add, Nat.le_refl, Nat.zero_le, List.length_cons, List.length_nil, true_and, and_true, true_or, or_true, eq_self, forall_const, true_implies, not_true_eq_false, not_false_eq_true, false_implies, implies_true, false_and, and_false, false_or, or_false, M0, R8, A204, L204, cl2, vi2, e204, h2, c1]
    refine t_tries hm0 ?_
    rw [e204]
    simp only [xX6_where_61, xX6_where_62, xX6_where_65, xX6_where_66, xX6_where_67, xX6_where_70, xX6_where_71, xX6_where_74, xX6_where_75, xX6_where_78, xX6_where_80, xX6_where_82, xX6_where_83, xX6_where_84, xX6_where_85, xX6_where_86, xX6_where_87, xX6_where_88, xX6_where_89, xX6_where_90, xX6_where_93, xX6_where_95, xX6_where_97, xX6_where_99, xX6_where_102, xX6_where_104, xX6_where_106, xX6_where_109, xX6_where_111, xX6_where_113, xX6_where_115, xX6_where_117, xX6_where_120, xX6_where_123, xX6_where_124, xX6_where_127, xX6_where_129, xX6_where_132, xX6_where_134, Bool.false_eq_true, if_true, if_false, kl_i, kl_a, kl_s, kl_u, kl_l, okS_nil, okS_cons, cat_i, cat_a, cat_s, cat_l, Nat.reduceAdd, Nat.reduceLeDiff, Nat.reduceSub, Nat.sub_zero, Nat.sub_self, Nat.zero_add, Nat.le_refl, Nat.zero_le, List.length_cons, List.length_nil, true_and, and_true, true_or, or_true, eq_self, forall_const, true_implies, not_true_eq_false, not_false_eq_true, false_implies, implies_true, false_and, and_false, false_or, or_false, M0, R21, A210, L210, k12, c12, v12, upM_setR, setR_s, setR_setR]
    refine t_mLacks hm0 h7 hn100 (by rw [e204]; exact h2) (by rw [upd_n _ _ (by omega), cpA_j _ _ (by omega)]; exact h2) ?_
    rw [lf_c h7 (by omega) h2]
    simp only [xX6_where_61, xX6_where_62, xX6_where_65, xX6_where_66, xX6_where_67, xX6_where_70, xX6_where_71, xX6_where_74, xX6_where_75, xX6_where_78, xX6_where_80, xX6_where_82, xX6_where_83, xX6_where_84, xX6_where_85, xX6_where_86, xX6_where_87, xX6_where_88, xX6_where_89, xX6_where_90, xX6_where_93, xX6_where_95, xX6_where_97, xX6_where_99, xX6_where_102, xX6_where_104, xX6_where_106, xX6_where_109, xX6_where_111, xX6_where_113, xX6_where_115, xX6_where_117, xX6_where_120, xX6_where_123, xX6_where_124, xX6_where_127, xX6_where_129, xX6_where_132, xX6_where_134, Bool.false_eq_true, if_true, if_false, kl_i, kl_a, kl_s, kl_u, kl_l, okS_nil, okS_cons, cat_i, cat_a, cat_s, cat_l, Nat.reduceAdd, Nat.reduceLeDiff, Nat.reduceSub, Nat.sub_zero, Nat.sub_self, Nat.zero_add, Nat.le_refl, Nat.zero_le, List.length_cons, List.length_nil, true_and, and_true, true_or, or_true, eq_self, forall_const, true_implies, not_true_eq_false, not_false_eq_true, false_implies, implies_true, false_and, and_false, false_or, or_false, nb hb7, nI1]
    rw [whM] at hQ
    by_cases hc : lfM N n (m0 204) v f < s
    · rw [if_pos hc] at hQ
      exact ⟨fun _ => ih (v + 1) v _ _ _ (by omega) (by omega) (scM_210 _ hs) hQ, fun g => absurd hc g⟩
    · rw [if_neg hc] at hQ
      exact ⟨fun g => absurd g hc, fun _ => ih (v + 1) b s _ _ (by omega) hb7 (scM_210 _ hs) hQ⟩
theorem p_where {K : Cx} {σ : Sg} (hw : WF σ) (x y z : Int32) : PAIR K σ YX5_where YX6_where [.int x, .int y, .int z] := by
  intro m l h
  obtain ⟨wN, wR, wT, wA, wL, wM, wI⟩ := hw
  have hM := wM
  have hN := wN
  obtain ⟨H0, F0, F1, F2, F3, F4, F5, F6, F7, P33, P39, P45⟩ := wN
  obtain ⟨M0, R0, R1, R2, R4, R8, R10, R11, R12, R14, R20, R21, R22, A200, L200, A201, L201, A202, L202, A203, L203, A204, L204, A205, L205, A206, L206, A207, L207, A208, L208, A209, L209, A210, L210, A211, L211⟩ := wM
  obtain ⟨N, X, A, h7, hn, hb, ht, hz, hX, hA, a1, a2, a3, ha⟩ := h.2.2.2.2.1
  have h8 : m 33 8 = nI N := hn.2.1
  have h2 := now_2 hn
  have cN : (nI N = 0) = (N = 0) := eqN (a := N) (b := 0) (by omega) (by omega)
  have badm : N ≠ 0 → (¬ (¬ x < 1 ∧ ¬ 99 < x) ∨ ¬ (¬ y < 1 ∧ ¬ 20 < y) ∨ ¬ (¬ z < 0 ∧ ¬ 1 < z)) → CT K 12 YX6_where [.ref 199, .int x, .int y, .int z] σ m l (fun r' σ2 m2 l2 => σ2 = σ ∧ r' = -1000001 ∧ RR m2) := by
    intro hN0 hb
    refine kX6_where ?_
    simp only [xX6_where_0, xX6_where_1, xX6_where_4, xX6_where_5, xX6_where_6, xX6_where_9, xX6_where_11, xX6_where_12, xX6_where_13, xX6_where_14, xX6_where_15, xX6_where_18, xX6_where_21, xX6_where_24, xX6_where_25, xX6_where_26, xX6_where_27, xX6_where_30, xX6_where_33, xX6_where_36, xX6_where_37, xX6_where_38, xX6_where_39, xX6_where_40, xX6_where_43, xX6_where_46, xX6_where_48, xX6_where_49, xX6_where_51, xX6_where_53, xX6_where_54, xX6_where_56, xX6_where_57, Bool.false_eq_true, if_true, if_false, kl_i, kl_a, kl_s, kl_u, kl_l, okS_nil, okS_cons, cat_i, cat_a, cat_s, cat_l, Nat.reduceAdd, Nat.reduceLeDiff, Nat.reduceSub, Nat.sub_zero, Nat.sub_self, Nat.zero_add, Nat.le_refl, Nat.zero_le, List.length_cons, List.length_nil, true_and, and_true, true_or, or_true, eq_self, forall_const, true_implies, not_true_eq_false, not_false_eq_true, false_implies, implies_true, false_and, and_false, false_or, or_false, M0, R8, A204, L204, cl2, vi2, h2, cN]
    refine ⟨fun g => absurd g hN0, fun _ => ?_⟩
    refine t_inI (a := 1) (b := 99) (by decide) (by decide) ?_
    by_cases hx : ¬ x < 1 ∧ ¬ 99 < x
    · have hb := hb.resolve_left (fun g => g hx)
      rw [if_pos hx]
      simp only [xX6_where_0, xX6_where_1, xX6_where_4, xX6_where_5, xX6_where_6, xX6_where_9, xX6_where_11, xX6_where_12, xX6_where_13, xX6_where_14, xX6_where_15, xX6_where_18, xX6_where_21, xX6_where_24, xX6_where_25, xX6_where_26, xX6_where_27, xX6_where_30, xX6_where_33, xX6_where_36, xX6_where_37, xX6_where_38, xX6_where_39, xX6_where_40, xX6_where_43, xX6_where_46, xX6_where_48, xX6_where_49, xX6_where_51, xX6_where_53, xX6_where_54, xX6_where_56, xX6_where_57, Bool.false_eq_true, if_true, if_false, kl_i, kl_a, kl_s, kl_u, kl_l, okS_nil, okS_cons, cat_i, cat_a, cat_s, cat_l, Nat.reduceAdd, Nat.reduceLeDiff, Nat.reduceSub, Nat.sub_zero, Nat.sub_self, Nat.zero_add, Nat.le_refl, Nat.zero_le, List.length_cons, List.length_nil, true_and, and_true, true_or, or_true, eq_self, forall_const, true_implies, not_true_eq_false, not_false_eq_true, false_implies, implies_true, false_and, and_false, false_or, or_false, M0, i10]
      refine t_inI (a := 1) (b := 20) (by decide) (by decide) ?_
      by_cases hy : ¬ y < 1 ∧ ¬ 20 < y
      · have hb := hb.resolve_left (fun g => g hy)
        rw [if_pos hy]
        simp only [xX6_where_0, xX6_where_1, xX6_where_4, xX6_where_5, xX6_where_6, xX6_where_9, xX6_where_11, xX6_where_12, xX6_where_13, xX6_where_14, xX6_where_15, xX6_where_18, xX6_where_21, xX6_where_24, xX6_where_25, xX6_where_26, xX6_where_27, xX6_where_30, xX6_where_33, xX6_where_36, xX6_where_37, xX6_where_38, xX6_where_39, xX6_where_40, xX6_where_43, xX6_where_46, xX6_where_48, xX6_where_49, xX6_where_51, xX6_where_53, xX6_where_54, xX6_where_56, xX6_where_57, Bool.false_eq_true, if_true, if_false, kl_i, kl_a, kl_s, kl_u, kl_l, okS_nil, okS_cons, cat_i, cat_a, cat_s, cat_l, Nat.reduceAdd, Nat.reduceLeDiff, Nat.reduceSub, Nat.sub_zero, Nat.sub_self, Nat.zero_add, Nat.le_refl, Nat.zero_le, List.length_cons, List.length_nil, true_and, and_true, true_or, or_true, eq_self, forall_const, true_implies, not_true_eq_false, not_false_eq_true, false_implies, implies_true, false_and, and_false, false_or, or_false, M0, i10]
        refine t_inI (a := 0) (b := 1) (by decide) (by decide) ?_
        rw [if_neg hb]
        simp only [xX6_where_0, xX6_where_1, xX6_where_4, xX6_where_5, xX6_where_6, xX6_where_9, xX6_where_11, xX6_where_12, xX6_where_13, xX6_where_14, xX6_where_15, xX6_where_18, xX6_where_21, xX6_where_24, xX6_where_25, xX6_where_26, xX6_where_27, xX6_where_30, xX6_where_33, xX6_where_36, xX6_where_37, xX6_where_38, xX6_where_39, xX6_where_40, xX6_where_43, xX6_where_46, xX6_where_48, xX6_where_49, xX6_where_51, xX6_where_53, xX6_where_54, xX6_where_56, xX6_where_57, Bool.false_eq_true, if_true, if_false, kl_i, kl_a, kl_s, kl_u, kl_l, okS_nil, okS_cons, cat_i, cat_a, cat_s, cat_l, Nat.reduceAdd, Nat.reduceLeDiff, Nat.reduceSub, Nat.sub_zero, Nat.sub_self, Nat.zero_add, Nat.le_refl, Nat.zero_le, List.length_cons, List.length_nil, true_and, and_true, true_or, or_true, eq_self, forall_const, true_implies, not_true_eq_false, not_false_eq_true, false_implies, implies_true, false_and, and_false, false_or, or_false, M0]
        exact h
      · rw [if_neg hy]
        simp only [xX6_where_0, xX6_where_1, xX6_where_4, xX6_where_5, xX6_where_6, xX6_where_9, xX6_where_11, xX6_where_12, xX6_where_13, xX6_where_14, xX6_where_15, xX6_where_18, xX6_where_21, xX6_where_24, xX6_where_25, xX6_where_26, xX6_where_27, xX6_where_30, xX6_where_33, xX6_where_36, xX6_where_37, xX6_where_38, xX6_where_39, xX6_where_40, xX6_where_43, xX6_where_46, xX6_where_48, xX6_where_49, xX6_where_51, xX6_where_53, xX6_where_54, xX6_where_56, xX6_where_57, Bool.false_eq_true, if_true, if_false, kl_i, kl_a, kl_s, kl_u, kl_l, okS_nil, okS_cons, cat_i, cat_a, cat_s, cat_l, Nat.reduceAdd, Nat.reduceLeDiff, Nat.reduceSub, Nat.sub_zero, Nat.sub_self, Nat.zero_add, Nat.le_refl, Nat.zero_le, List.length_cons, List.length_nil, true_and, and_true, true_or, or_true, eq_self, forall_const, true_implies, not_true_eq_false, not_false_eq_true, false_implies, implies_true, false_and, and_false, false_or, or_false, M0]
        exact h
    · rw [if_neg hx]
      simp only [xX6_where_0, xX6_where_1, xX6_where_4, xX6_where_5, xX6_where_6, xX6_where_9, xX6_where_11, xX6_where_12, xX6_where_13, xX6_where_14, xX6_where_15, xX6_where_18, xX6_where_21, xX6_where_24, xX6_where_25, xX6_where_26, xX6_where_27, xX6_where_30, xX6_where_33, xX6_where_36, xX6_where_37, xX6_where_38, xX6_where_39, xX6_where_40, xX6_where_43, xX6_where_46, xX6_where_48, xX6_where_49, xX6_where_51, xX6_where_53, xX6_where_54, xX6_where_56, xX6_where_57, Bool.false_eq_true, if_true, if_false, kl_i, kl_a, kl_s, kl_u, kl_l, okS_nil, okS_cons, cat_i, cat_a, cat_s, cat_l, Nat.reduceAdd, Nat.reduceLeDiff, Nat.reduceSub, Nat.sub_zero, Nat.sub_self, Nat.zero_add, Nat.le_refl, Nat.zero_le, List.length_cons, List.length_nil, true_and, and_true, true_or, or_true, eq_self, forall_const, true_implies, not_true_eq_false, not_false_eq_true, false_implies, implies_true, false_and, and_false, false_or, or_false, M0]
      exact h
  refine kX5_where ?_
  simp only [xX5_where_0, xX5_where_1, xX5_where_4, xX5_where_7, xX5_where_10, xX5_where_12, xX5_where_13, xX5_where_14, xX5_where_15, xX5_where_18, xX5_where_19, xX5_where_21, xX5_where_24, xX5_where_25, xX5_where_26, xX5_where_29, xX5_where_30, xX5_where_32, xX5_where_35, xX5_where_36, xX5_where_39, xX5_where_40, xX5_where_41, xX5_where_44, xX5_where_46, xX5_where_47, xX5_where_48, xX5_where_50, xX5_where_51, xX5_where_52, xX5_where_53, xX5_where_54, xX5_where_57, xX5_where_59, xX5_where_60, Bool.false_eq_true, if_true, if_false, kl_i, kl_a, kl_s, kl_u, kl_l, okS_nil, okS_cons, cat_i, cat_a, cat_s, cat_l, Nat.reduceAdd, Nat.reduceLeDiff, Nat.reduceSub, Nat.sub_zero, Nat.sub_self, Nat.zero_add, Nat.le_refl, Nat.zero_le, List.length_cons, List.length_nil, true_and, and_true, true_or, or_true, eq_self, forall_const, true_implies, not_true_eq_false, not_false_eq_true, false_implies, implies_true, false_and, and_false, false_or, or_false, H0, F0, F1, F2, F3, F4, F5, F6, F7, P33.1, P39.1, P45.1, h8, cN]
  by_cases hN0 : N = 0
  · refine ⟨fun _ => ?_, fun g => absurd hN0 g⟩
    refine kX6_where ?_
    simp only [xX6_where_0, xX6_where_1, xX6_where_4, xX6_where_5, xX6_where_6, xX6_where_9, xX6_where_11, xX6_where_12, xX6_where_13, xX6_where_14, xX6_where_15, xX6_where_18, xX6_where_21, xX6_where_24, xX6_where_25, xX6_where_26, xX6_where_27, xX6_where_30, xX6_where_33, xX6_where_36, xX6_where_37, xX6_where_38, xX6_where_39, xX6_where_40, xX6_where_43, xX6_where_46, xX6_where_48, xX6_where_49, xX6_where_51, xX6_where_53, xX6_where_54, xX6_where_56, xX6_where_57, Bool.false_eq_true, if_true, if_false, kl_i, kl_a, kl_s, kl_u, kl_l, okS_nil, okS_cons, cat_i, cat_a, cat_s, cat_l, Nat.reduceAdd, Nat.reduceLeDiff, Nat.reduceSub, Nat.sub_zero, Nat.sub_self, Nat.zero_add, Nat.le_refl, Nat.zero_le, List.length_cons, List.length_nil, true_and, and_true, true_or, or_true, eq_self, forall_const, true_implies, not_true_eq_false, not_false_eq_true, false_implies, implies_true, false_and, and_false, false_or, or_false, M0, R8, A204, L204, cl2, vi2, h2, cN]
    exact ⟨fun _ => h, fun g => absurd hN0 g⟩
  refine ⟨fun g => absurd g hN0, fun _ => ?_⟩
  by_cases hx0 : x < 1
  · exact ⟨fun _ => badm hN0 (Or.inl (fun g => g.1 hx0)), fun g => absurd hx0 g⟩
  refine ⟨fun g => absurd g hx0, fun _ => ?_⟩
  by_cases hx1 : 99 < x
  · exact ⟨fun _ => badm hN0 (Or.inl (fun g => g.2 hx1)), fun g => absurd hx1 g⟩
  refine ⟨fun g => absurd g hx1, fun _ => ?_⟩
  by_cases hy0 : y < 1
  · exact ⟨fun _ => badm hN0 (Or.inr (Or.inl (fun g => g.1 hy0))), fun g => absurd hy0 g⟩
  refine ⟨fun g => absurd g hy0, fun _ => ?_⟩
  by_cases hy1 : 20 < y
  · exact ⟨fun _ => badm hN0 (Or.inr (Or.inl (fun g => g.2 hy1))), fun g => absurd hy1 g⟩
  refine ⟨fun g => absurd g hy1, fun _ => ?_⟩
  by_cases hz0 : z < 0
  · exact ⟨fun _ => badm hN0 (Or.inr (Or.inr (fun g => g.1 hz0))), fun g => absurd hz0 g⟩
  refine ⟨fun g => absurd g hz0, fun _ => ?_⟩
  by_cases hz1 : 1 < z
  · exact ⟨fun _ => badm hN0 (Or.inr (Or.inr (fun g => g.2 hz1))), fun g => absurd hz1 g⟩
  refine ⟨fun g => absurd g hz1, fun _ => ?_⟩
  obtain ⟨n, n1, n2, e⟩ := rng (a := 1) (b := 20) (by omega) (by omega) ⟨hy0, hy1⟩
  subst e
  refine t_lackedWithMoreFlow (v := 0) hN h7 (by omega) (by omega) hn (scr_r m) (fun m1 hs1 => ?_)
  refine l_wh (d := 5) hN h7 (by omega) hn (N - 1) 1 0 _ m1 _ (by omega) hs1 (fun m2 hs2 => ?_)
  refine ⟨rfl, kX6_where ?_⟩
  have e204 : m2 204 = m 204 := hs2 204 (by omega)
  have e210 : m2 210 = m2 210 := rfl
  simp only [xX6_where_0, xX6_where_1, xX6_where_4, xX6_where_5, xX6_where_6, xX6_where_9, xX6_where_11, xX6_where_12, xX6_where_13, xX6_where_14, xX6_where_15, xX6_where_18, xX6_where_21, xX6_where_24, xX6_where_25, xX6_where_26, xX6_where_27, xX6_where_30, xX6_where_33, xX6_where_36, xX6_where_37, xX6_where_38, xX6_where_39, xX6_where_40, xX6_where_43, xX6_where_46, xX6_where_48, xX6_where_49, xX6_where_51, xX6_where_53, xX6_where_54, xX6_where_56, xX6_where_57, Bool.false_eq_true, if_true, if_false, kl_i, kl_a, kl_s, kl_u, kl_l, okS_nil, okS_cons, cat_i, cat_a, cat_s, cat_l, Nat.reduceAdd, Nat.reduceLeDiff, Nat.reduceSub, Nat.sub_zero, Nat.sub_self, Nat.zero_add, Nat.le_refl, Nat.zero_le, List.length_cons, List.length_nil, true_and, and_true, true_or, or_true, eq_self, forall_const, true_implies, not_true_eq_false, not_false_eq_true, false_implies, implies_true, false_and, and_false, false_or, or_false, M0, R8, A204, L204, cl2, vi2, e204, h2, cN]
  refine ⟨fun g => absurd g hN0, fun _ => ?_⟩
  refine t_inI (a := 1) (b := 99) (by decide) (by decide) ?_
  rw [if_pos ⟨hx0, hx1⟩]
  simp only [xX6_where_0, xX6_where_1, xX6_where_4, xX6_where_5, xX6_where_6, xX6_where_9, xX6_where_11, xX6_where_12, xX6_where_13, xX6_where_14, xX6_where_15, xX6_where_18, xX6_where_21, xX6_where_24, xX6_where_25, xX6_where_26, xX6_where_27, xX6_where_30, xX6_where_33, xX6_where_36, xX6_where_37, xX6_where_38, xX6_where_39, xX6_where_40, xX6_where_43, xX6_where_46, xX6_where_48, xX6_where_49, xX6_where_51, xX6_where_53, xX6_where_54, xX6_where_56, xX6_where_57, Bool.false_eq_true, if_true, if_false, kl_i, kl_a, kl_s, kl_u, kl_l, okS_nil, okS_cons, cat_i, cat_a, cat_s, cat_l, Nat.reduceAdd, Nat.reduceLeDiff, Nat.reduceSub, Nat.sub_zero, Nat.sub_self, Nat.zero_add, Nat.le_refl, Nat.zero_le, List.length_cons, List.length_nil, true_and, and_true, true_or, or_true, eq_self, forall_const, true_implies, not_true_eq_false, not_false_eq_true, false_implies, implies_true, false_and, and_false, false_or, or_false, M0, i10]
  refine t_inI (a := 1) (b := 20) (by decide) (by decide) ?_
  rw [if_pos ⟨hy0, hy1⟩]
  simp only [xX6_where_0, xX6_where_1, xX6_where_4, xX6_where_5, xX6_where_6, xX6_where_9, xX6_where_11, xX6_where_12, xX6_where_13, xX6_where_14, xX6_where_15, xX6_where_18, xX6_where_21, xX6_where_24, xX6_where_25, xX6_where_26, xX6_where_27, xX6_where_30, xX6_where_33, xX6_where_36, xX6_where_37, xX6_where_38, xX6_where_39, xX6_where_40, xX6_where_43, xX6_where_46, xX6_where_48, xX6_where_49, xX6_where_51, xX6_where_53, xX6_where_54, xX6_where_56, xX6_where_57, Bool.false_eq_true, if_true, if_false, kl_i, kl_a, kl_s, kl_u, kl_l, okS_nil, okS_cons, cat_i, cat_a, cat_s, cat_l, Nat.reduceAdd, Nat.reduceLeDiff, Nat.reduceSub, Nat.sub_zero, Nat.sub_self, Nat.zero_add, Nat.le_refl, Nat.zero_le, List.length_cons, List.length_nil, true_and, and_true, true_or, or_true, eq_self, forall_const, true_implies, not_true_eq_false, not_false_eq_true, false_implies, implies_true, false_and, and_false, false_or, or_false, M0, i10]
  refine t_inI (a := 0) (b := 1) (by decide) (by decide) ?_
  rw [if_pos ⟨hz0, hz1⟩]
  simp only [xX6_where_0, xX6_where_1, xX6_where_4, xX6_where_5, xX6_where_6, xX6_where_9, xX6_where_11, xX6_where_12, xX6_where_13, xX6_where_14, xX6_where_15, xX6_where_18, xX6_where_21, xX6_where_24, xX6_where_25, xX6_where_26, xX6_where_27, xX6_where_30, xX6_where_33, xX6_where_36, xX6_where_37, xX6_where_38, xX6_where_39, xX6_where_40, xX6_where_43, xX6_where_46, xX6_where_48, xX6_where_49, xX6_where_51, xX6_where_53, xX6_where_54, xX6_where_56, xX6_where_57, Bool.false_eq_true, if_true, if_false, kl_i, kl_a, kl_s, kl_u, kl_l, okS_nil, okS_cons, cat_i, cat_a, cat_s, cat_l, Nat.reduceAdd, Nat.reduceLeDiff, Nat.reduceSub, Nat.sub_zero, Nat.sub_self, Nat.zero_add, Nat.le_refl, Nat.zero_le, List.length_cons, List.length_nil, true_and, and_true, true_or, or_true, eq_self, forall_const, true_implies, not_true_eq_false, not_false_eq_true, false_implies, implies_true, false_and, and_false, false_or, or_false, M0, i10]
  have c0 : ((0 : Int32) < nI N) = True := (ltN (a := 0) (b := N) (by omega) (by omega)).trans (eq_true (by omega))
  have k012 : (12 : Int32) + 0 = 12 := by decide
  have c12 : Int32.toNatClampNeg 12 = 12 := by decide
  have v12 : vp_in 12 40 := inN (v := 12) (n := 40) (by omega) (by omega)
  rw [xX6_where_59]
  simp only [xX6_where_61, xX6_where_62, xX6_where_65, xX6_where_66, xX6_where_67, xX6_where_70, xX6_where_71, xX6_where_74, xX6_where_75, xX6_where_78, xX6_where_80, xX6_where_82, xX6_where_83, xX6_where_84, xX6_where_85, xX6_where_86, xX6_where_87, xX6_where_88, xX6_where_89, xX6_where_90, xX6_where_93, xX6_where_95, xX6_where_97, xX6_where_99, xX6_where_102, xX6_where_104, xX6_where_106, xX6_where_109, xX6_where_111, xX6_where_113, xX6_where_115, xX6_where_117, xX6_where_120, xX6_where_123, xX6_where_124, xX6_where_127, xX6_where_129, xX6_where_132, xX6_where_134, Bool.false_eq_true, if_true, if_false, kl_i, kl_a, kl_s, kl_u, kl_l, okS_nil, okS_cons, cat_i, cat_a, cat_s, cat_l, Nat.reduceAdd, Nat.reduceLeDiff, Nat.reduceSub, Nat.sub_zero, Nat.sub_self, Nat.zero_add, Nat.le_refl, Nat.zero_le, List.length_cons, List.length_nil, true_and, and_true, true_or, or_true, eq_self, forall_const, true_implies, not_true_eq_false, not_false_eq_true, false_implies, implies_true, false_and, and_false, false_or, or_false, M0, R8, A204, L204, cl2, vi2, e204, h2, c0]
  refine t_tries hM ?_
  rw [e204]
  simp only [xX6_where_61, xX6_where_62, xX6_where_65, xX6_where_66, xX6_where_67, xX6_where_70, xX6_where_71, xX6_where_74, xX6_where_75, xX6_where_78, xX6_where_80, xX6_where_82, xX6_where_83, xX6_where_84, xX6_where_85, xX6_where_86, xX6_where_87, xX6_where_88, xX6_where_89, xX6_where_90, xX6_where_93, xX6_where_95, xX6_where_97, xX6_where_99, xX6_where_102, xX6_where_104, xX6_where_106, xX6_where_109, xX6_where_111, xX6_where_113, xX6_where_115, xX6_where_117, xX6_where_120, xX6_where_123, xX6_where_124, xX6_where_127, xX6_where_129, xX6_where_132, xX6_where_134, Bool.false_eq_true, if_true, if_false, kl_i, kl_a, kl_s, kl_u, kl_l, okS_nil, okS_cons, cat_i, cat_a, cat_s, cat_l, Nat.reduceAdd, Nat.reduceLeDiff, Nat.reduceSub, Nat.sub_zero, Nat.sub_self, Nat.zero_add, Nat.le_refl, Nat.zero_le, List.length_cons, List.length_nil, true_and, and_true, true_or, or_true, eq_self, forall_const, true_implies, not_true_eq_false, not_false_eq_true, false_implies, implies_true, false_and, and_false, false_or, or_false, M0, R21, A210, L210, k012, c12, v12, upM_setR, setR_s, setR_setR]
  have hu2 : upd (cpA (m 204) (m2 210)) 12 (cpA (m 204) (m2 210) 12 + x) 2 = nI N := by rw [upd_n _ _ (by decide), cpA_j _ _ (by omega)]; exact h2
  refine t_mLacks hM h7 (by omega) (by rw [e204]; exact h2) hu2 ?_
  have el := lf_c (n := n) (v := 0) (a := m 204) (g := m2 210) (f := x) h7 (by omega) h2
  simp only [Nat.add_zero] at el
  rw [el]
  have fin := l_mwh (K := K) (d := 7) (m0 := m2) (l := l) (f := x) (z := z) (Q := fun r' σ2 m2' l2 => σ2 = σ ∧ r' = (if z = 0 then nI (whM N n (m 204) x (N - 1) 1 0 (lfM N n (m 204) 0 x)).1 else (whM N n (m 204) x (N - 1) 1 0 (lfM N n (m 204) 0 x)).2) ∧ RR m2') hM h7 (by omega : n ≤ 100) (by rw [e204]; exact h2) (N - 1) 1 0 (lfM N n (m 204) 0 x) (setR m2 210 (gosM N n (z3 (upd (cpA (m 204) (m2 210)) 12 (cpA (m 204) (m2 210) 12 + x)) N))) (.int (lfM N n (m 204) 0 x)) (by omega) (by omega) (scM_210 _ (scM_r m2)) (fun m3 hs3 => by
    rw [e204]
    exact ⟨rfl, rfl, RR_sc h hs2 hs3⟩)
  first
    | exact fin
    | exact ⟨fun _ => fin, fun g => absurd rfl g⟩
