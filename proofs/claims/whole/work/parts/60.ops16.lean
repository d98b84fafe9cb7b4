/-! calls that foretell: wed -/
def wdL (N : Nat) : Nat → (Nat → Int32) → Int32 → Int32
  | 0, _, c => c
  | k + 1, a, c => wdL N k (goQ N a 0) (if goS N a 0 ≠ 0 then c + 1 else c)
theorem l_wd {K : Cx} {d : Nat} {σ : Sg} {m0 : Mm} {l : Ml} {N n : Nat} {L : Nat → Prop} {x y : Int32} {e4 e5 : Int32} {Q : Rt} (hw : wfN σ) (h7 : N ≤ 7) (hn100 : n ≤ 100) : ∀ (k v : Nat) (q m : Mm) (a : Nat → Int32) (c : Int32), v + k = n → scr m0 m → triQ N q a L → (∀ m', scr m0 m' → Q (wdL N k a c) σ m' l) → WX (tX5_wed K (d + 4)) Q (123, [.ref 0, .int x, .int y, .int (nI n), .int e4, .int e5, .int c, .int (nI v)], [], (0, 0), σ, putP m 45 q, l) := by
  obtain ⟨H0, F0, F1, F2, F3, F4, F5, F6, F7, P33, P39, P45⟩ := hw
  intro k
  induction k with
  | zero =>
    intro v q m a c hv hs ht hQ
    have c1 : (nI v < nI n) = False := (ltN (by omega) (by omega)).trans (eq_false (by omega))
    rw [xX5_wed_123]
    simp only [xX5_wed_125, xX5_wed_126, xX5_wed_129, xX5_wed_130, xX5_wed_133, xX5_wed_134, xX5_wed_137, xX5_wed_140, xX5_wed_143, xX5_wed_146, xX5_wed_149, xX5_wed_151, Bool.false_eq_true, if_true, if_false, kl_i, kl_a, kl_s, kl_u, kl_l, okS_nil, okS_cons, cat_i, cat_a, cat_s, cat_l, Nat.reduceAdd, Nat.reduceLeDiff, Nat.reduceSub, Nat.sub_zero, Nat.sub_self, Nat.zero_add, Nat.le_refl, Nat.zero_le, List.length_cons, List.length_nil, true_and, and_true, true_or, or_true, eq_self, forall_const, true_implies, not_true_eq_false, not_false_eq_true, false_implies, implies_true, false_and, and_false, false_or, or_false, c1]
    exact hQ _ (scr_45 _ hs)
  | succ k ih =>
    intro v q m a c hv hs ht hQ
    have c1 : (nI v < nI n) = True := (ltN (by omega) (by omega)).trans (eq_true (by omega))
    obtain ⟨e1, e2⟩ := tri_day 0 h7 ht
    rw [xX5_wed_123]
    simp only [xX5_wed_125, xX5_wed_126, xX5_wed_129, xX5_wed_130, xX5_wed_133, xX5_wed_134, xX5_wed_137, xX5_wed_140, xX5_wed_143, xX5_wed_146, xX5_wed_149, xX5_wed_151, Bool.false_eq_true, if_true, if_false, kl_i, kl_a, kl_s, kl_u, kl_l, okS_nil, okS_cons, cat_i, cat_a, cat_s, cat_l, Nat.reduceAdd, Nat.reduceLeDiff, Nat.reduceSub, Nat.sub_zero, Nat.sub_self, Nat.zero_add, Nat.le_refl, Nat.zero_le, List.length_cons, List.length_nil, true_and, and_true, true_or, or_true, eq_self, forall_const, true_implies, not_true_eq_false, not_false_eq_true, false_implies, implies_true, false_and, and_false, false_or, or_false, c1, H0, F0, F1, F2, F3, F4, F5, F6, F7, P33.1, P39.1, P45.1]
    refine t_passDay P45 ht.2.1 h7 ?_
    rw [e1]
    rw [wdL] at hQ
    by_cases h0 : goS N a 0 = 0
    · simp only [h0, ne_eq, xX5_wed_125, xX5_wed_126, xX5_wed_129, xX5_wed_130, xX5_wed_133, xX5_wed_134, xX5_wed_137, xX5_wed_140, xX5_wed_143, xX5_wed_146, xX5_wed_149, xX5_wed_151, Bool.false_eq_true, if_true, if_false, kl_i, kl_a, kl_s, kl_u, kl_l, okS_nil, okS_cons, cat_i, cat_a, cat_s, cat_l, Nat.reduceAdd, Nat.reduceLeDiff, Nat.reduceSub, Nat.sub_zero, Nat.sub_self, Nat.zero_add, Nat.le_refl, Nat.zero_le, List.length_cons, List.length_nil, true_and, and_true, true_or, or_true, eq_self, forall_const, true_implies, not_true_eq_false, not_false_eq_true, false_implies, implies_true, false_and, and_false, false_or, or_false, nI1] at hQ ⊢
      exact ih (v + 1) _ _ _ _ (by omega) hs e2 hQ
    · simp only [h0, ne_eq, xX5_wed_125, xX5_wed_126, xX5_wed_129, xX5_wed_130, xX5_wed_133, xX5_wed_134, xX5_wed_137, xX5_wed_140, xX5_wed_143, xX5_wed_146, xX5_wed_149, xX5_wed_151, Bool.false_eq_true, if_true, if_false, kl_i, kl_a, kl_s, kl_u, kl_l, okS_nil, okS_cons, cat_i, cat_a, cat_s, cat_l, Nat.reduceAdd, Nat.reduceLeDiff, Nat.reduceSub, Nat.sub_zero, Nat.sub_self, Nat.zero_add, Nat.le_refl, Nat.zero_le, List.length_cons, List.length_nil, true_and, and_true, true_or, or_true, eq_self, forall_const, true_implies, not_true_eq_false, not_false_eq_true, false_implies, implies_true, false_and, and_false, false_or, or_false, nI1] at hQ ⊢
      exact ih (v + 1) _ _ _ _ (by omega) hs e2 hQ
theorem l_mwd {K : Cx} {d : Nat} {σ : Sg} {m0 : Mm} {l : Ml} {N n : Nat} {x y e4 : Int32} {Q : Rt} (hm : wfM σ) (h7 : N ≤ 7) (hn100 : n ≤ 100) : ∀ (k v : Nat) (m : Mm) (c : Int32), v + k = n → scM m0 m → m 210 2 = nI N → (∀ m', scM m0 m' → Q (wdL N k (m 210) c) σ m' l) → WX (tX6_wed K (d + 3)) Q (121, [.ref 199, .int x, .int y, .int (nI n), .int e4, .int c, .int (nI v)], [], (0, 0), σ, m, l) := by
  obtain ⟨M0, R0, R1, R2, R4, R8, R10, R11, R12, R14, R20, R21, R22, A200, L200, A201, L201, A202, L202, A203, L203, A204, L204, A205, L205, A206, L206, A207, L207, A208, L208, A209, L209, A210, L210, A211, L211⟩ := hm
  intro k
  induction k with
  | zero =>
    intro v m c hv hs hN hQ
    have c1 : (nI v < nI n) = False := (ltN (by omega) (by omega)).trans (eq_false (by omega))
    rw [xX6_wed_121]
    simp only [xX6_wed_123, xX6_wed_124, xX6_wed_127, xX6_wed_129, xX6_wed_130, xX6_wed_133, xX6_wed_134, xX6_wed_137, xX6_wed_140, xX6_wed_141, xX6_wed_144, xX6_wed_145, xX6_wed_146, xX6_wed_148, xX6_wed_151, xX6_wed_154, xX6_wed_156, Bool.false_eq_true, if_true, if_false, kl_i, kl_a, kl_s, kl_u, kl_l, okS_nil, okS_cons, cat_i, cat_a, cat_s, cat_l, Nat.reduceAdd, Nat.reduceLeDiff, Nat.reduceSub, Nat.sub_zero, Nat.sub_self, Nat.zero_add, Nat.le_refl, Nat.zero_le, List.length_cons, List.length_nil, true_and, and_true, true_or, or_true, eq_self, forall_const, true_implies, not_true_eq_false, not_false_eq_true, false_implies, implies_true, false_and, and_false, false_or, or_false, c1]
    exact hQ _ hs
  | succ k ih =>
    intro v m c hv hs hN hQ
    have c1 : (nI v < nI n) = True := (ltN (by omega) (by omega)).trans (eq_true (by omega))
    rw [xX6_wed_121]
    simp only [xX6_wed_123, xX6_wed_124, xX6_wed_127, xX6_wed_129, xX6_wed_130, xX6_wed_133, xX6_wed_134, xX6_wed_137, xX6_wed_140, xX6_wed_141, xX6_wed_144, xX6_wed_145, xX6_wed_146, xX6_wed_148, xX6_wed_151, xX6_wed_154, xX6_wed_156, Bool.false_eq_true, if_true, if_false, kl_i, kl_a, kl_s, kl_u, kl_l, okS_nil, okS_cons, cat_i, cat_a, cat_s, cat_l, Nat.reduceAdd, Nat.reduceLeDiff, Nat.reduceSub, Nat.sub_zero, Nat.sub_self, Nat.zero_add, Nat.le_refl, Nat.zero_le, List.length_cons, List.length_nil, true_and, and_true, true_or, or_true, eq_self, forall_const, true_implies, not_true_eq_false, not_false_eq_true, false_implies, implies_true, false_and, and_false, false_or, or_false, c1, M0, R21]
    refine t_goes2 ⟨A210, L210⟩ hN h7 ?_
    rw [wdL] at hQ
    have hN' : setR m 210 (goQ N (m 210) 0) 210 2 = nI N := by rw [setR_s, goQ_2 N h7]; exact hN
    by_cases h0 : goS N (m 210) 0 = 0
    · simp only [h0, ne_eq, xX6_wed_123, xX6_wed_124, xX6_wed_127, xX6_wed_129, xX6_wed_130, xX6_wed_133, xX6_wed_134, xX6_wed_137, xX6_wed_140, xX6_wed_141, xX6_wed_144, xX6_wed_145, xX6_wed_146, xX6_wed_148, xX6_wed_151, xX6_wed_154, xX6_wed_156, Bool.false_eq_true, if_true, if_false, kl_i, kl_a, kl_s, kl_u, kl_l, okS_nil, okS_cons, cat_i, cat_a, cat_s, cat_l, Nat.reduceAdd, Nat.reduceLeDiff, Nat.reduceSub, Nat.sub_zero, Nat.sub_self, Nat.zero_add, Nat.le_refl, Nat.zero_le, List.length_cons, List.length_nil, true_and, and_true, true_or, or_true, eq_self, forall_const, true_implies, not_true_eq_false, not_false_eq_true, false_implies, implies_true, false_and, and_false, false_or, or_false, nI1, Int32.add_zero] at hQ ⊢
      exact ih (v + 1) _ _ (by omega) (scM_210 _ hs) hN' (by rw [setR_s]; exact hQ)
    · simp only [h0, ne_eq, xX6_wed_123, xX6_wed_124, xX6_wed_127, xX6_wed_129, xX6_wed_130, xX6_wed_133, xX6_wed_134, xX6_wed_137, xX6_wed_140, xX6_wed_141, xX6_wed_144, xX6_wed_145, xX6_wed_146, xX6_wed_148, xX6_wed_151, xX6_wed_154, xX6_wed_156, Bool.false_eq_true, if_true, if_false, kl_i, kl_a, kl_s, kl_u, kl_l, okS_nil, okS_cons, cat_i, cat_a, cat_s, cat_l, Nat.reduceAdd, Nat.reduceLeDiff, Nat.reduceSub, Nat.sub_zero, Nat.sub_self, Nat.zero_add, Nat.le_refl, Nat.zero_le, List.length_cons, List.length_nil, true_and, and_true, true_or, or_true, eq_self, forall_const, true_implies, not_true_eq_false, not_false_eq_true, false_implies, implies_true, false_and, and_false, false_or, or_false, nI1] at hQ ⊢
      exact ih (v + 1) _ _ (by omega) (scM_210 _ hs) hN' (by rw [setR_s]; exact hQ)
theorem hf2 : ∀ s : Nat, s < 2000 → nI s / 2 = nI (s / 2) := by decide +kernel
theorem tri_2 {N v w : Nat} {q : Mm} {a a' : Nat → Int32} {L : Nat → Prop} {X Y : Int32} (hv : v < N) (hw : w < N) (h7 : N ≤ 7) (h : triQ N q a L) (hj : ∀ j, j < 26 ∨ 33 ≤ j → a' j = a j) (hX : a' (26 + v) = X) (hY : a' (26 + w) = Y) (ho : ∀ u, u < N → u ≠ v → u ≠ w → a' (26 + u) = a (26 + u)) (hvw : v ≠ w) :
    triQ N (setR q 2 (upd (upd (q 2) v X) w Y)) a' L := by
  obtain ⟨⟨e0, e1, e2, e3, e4, e5, e6⟩, e7, e8⟩ := h
  refine ⟨⟨?_, ?_, ?_, ?_, ?_, fun u hu => ⟨?_, ?_, ?_, ?_⟩, fun u hu hl => ?_⟩, e7, e8⟩
  · rw [hj 0 (by omega)]; exact e0
  · rw [hj 1 (by omega)]; exact e1
  · rw [hj 2 (by omega)]; exact e2
  · rw [hj 3 (by omega)]; exact e3
  · rw [hj 4 (by omega)]; exact e4
  · rw [hj _ (by omega)]; exact (e5 u hu).1
  · rw [hj _ (by omega)]; exact (e5 u hu).2.1
  · rw [hj _ (by omega)]; exact (e5 u hu).2.2.1
  · rw [setR_s]
    by_cases g : u = w
    · subst g; rw [upd_s]; exact hY.symm
    · rw [upd_n _ _ g]
      by_cases g2 : u = v
      · subst g2; rw [upd_s]; exact hX.symm
      · rw [upd_n _ _ g2, ho u hu g2 g]; exact (e5 u hu).2.2.2
  · rw [hj _ (by omega)]; exact e6 u hu hl
