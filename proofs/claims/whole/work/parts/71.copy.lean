/-! rows copied: the model's loop -/
def cpF (f : Nat → Int32) (s t n : Nat) (up : Bool) (c : Nat) : Nat → Int32 := fun k => if up = true then (if t + (n - c) ≤ k ∧ k < t + n then f (s + (k - t)) else f k) else (if t ≤ k ∧ k < t + c then f (s + (k - t)) else f k)
def cpP (n : Nat) (up : Bool) (c : Nat) : Nat := if up = true then n - 1 - c else c
theorem cpF_s {f : Nat → Int32} {s t n c : Nat} {up : Bool} (hc : c < n) (h : s + n ≤ t ∨ t + n ≤ s ∨ (up = true ∧ s ≤ t) ∨ (up = false ∧ t ≤ s)) : upd (cpF f s t n up c) (t + cpP n up c) (cpF f s t n up c (s + cpP n up c)) = cpF f s t n up (c + 1) := by
  funext k
  cases up
  · have eP : cpP n false c = c := rfl
    rw [eP]
    simp only [cpF, upd, Bool.false_eq_true, if_false]
    by_cases g : k = t + c
    · rw [if_pos g]
      have this : ¬ (t ≤ s + c ∧ s + c < t + c) := by
        rcases h with h | h | h | h
        · omega
        · omega
        · exact absurd h.1 (by decide)
        · omega
      rw [if_neg this, if_pos (by omega)]
      exact congrArg f (by omega)
    · rw [if_neg g]
      by_cases g2 : t ≤ k ∧ k < t + c
      · rw [if_pos g2, if_pos (by omega)]
      · rw [if_neg g2, if_neg (by omega)]
  · have eP : cpP n true c = n - 1 - c := rfl
    rw [eP]
    simp only [cpF, upd, if_true]
    by_cases g : k = t + (n - 1 - c)
    · rw [if_pos g]
      have this : ¬ (t + (n - c) ≤ s + (n - 1 - c) ∧ s + (n - 1 - c) < t + n) := by
        rcases h with h | h | h | h
        · omega
        · omega
        · omega
        · exact absurd h.1 (by decide)
      rw [if_neg this, if_pos (by omega)]
      exact congrArg f (by omega)
    · rw [if_neg g]
      by_cases g2 : t + (n - c) ≤ k ∧ k < t + n
      · rw [if_pos g2, if_pos (by omega)]
      · rw [if_neg g2, if_neg (by omega)]
theorem cpF_n (f : Nat → Int32) (s t n : Nat) (up : Bool) : cpF f s t n up n = va_cpy f f s t n := by
  funext k
  cases up
  · rfl
  · simp only [cpF, va_cpy, if_true, Nat.sub_self, Nat.add_zero]
theorem cpF_0 (f : Nat → Int32) (s t n : Nat) (up : Bool) : cpF f s t n up 0 = f := by
  funext k
  cases up
  · simp only [cpF, Bool.false_eq_true, if_false]
    rw [if_neg (by omega)]
  · simp only [cpF, if_true]
    rw [if_neg (by omega)]
theorem l_cp {K : Cx} {d a b i j n : Nat} {σ : Sg} {m : Mm} {l : Ml} {f : Nat → Int32} {Q : Rt} (hm : wfM σ) (ha : a < 8) (hb : b < 8) (hi : i + n ≤ 40) (hj : j + n ≤ 40) : ∀ (k c : Nat) (e7 : Value), c + k = n →
    (∀ e6 e7, WX (tX6_copy K d) Q (182, [.ref 199, .int (nI a), .int (nI i), .int (nI b), .int (nI j), .int (nI n), e6, e7], [], (0, 0), σ, setR m 202 (va_cpy f f (40 * a + i) (40 * b + j) n), l)) → WX (tX6_copy K d) Q (120, [.ref 199, .int (nI a), .int (nI i), .int (nI b), .int (nI j), .int (nI n), .int (nI c), e7], [], (0, 0), σ, setR m 202 (cpF f (40 * a + i) (40 * b + j) n (decide (i < j)) c), l) := by
  obtain ⟨M0, R0, R1, R2, R4, R8, R10, R11, R12, R14, R20, R21, R22, A200, L200, A201, L201, A202, L202, A203, L203, A204, L204, A205, L205, A206, L206, A207, L207, A208, L208, A209, L209, A210, L210, A211, L211⟩ := hm
  have cij : (nI i < nI j) = (i < j) := ltN (by omega) (by omega)
  have hov : 40 * a + i + n ≤ 40 * b + j ∨ 40 * b + j + n ≤ 40 * a + i ∨ (decide (i < j) = true ∧ 40 * a + i ≤ 40 * b + j) ∨ (decide (i < j) = false ∧ 40 * b + j ≤ 40 * a + i) := by
    by_cases g : a = b
    · subst g
      by_cases g2 : i < j
      · exact Or.inr (Or.inr (Or.inl ⟨decide_eq_true g2, by omega⟩))
      · exact Or.inr (Or.inr (Or.inr ⟨decide_eq_false g2, by omega⟩))
    · omega
  intro k
  induction k with
  | zero =>
    intro c e7 hc hQ
    have e : c = n := by omega
    subst e
    have c1 : (nI c < nI c) = False := (ltN (by omega) (by omega)).trans (eq_false (by omega))
    rw [xX6_copy_120]
    simp only [xX6_copy_122, xX6_copy_124, Bool.false_eq_true, if_true, if_false, kl_i, kl_a, kl_s, kl_u, kl_l, okS_nil, okS_cons, cat_i, cat_a, cat_s, cat_l, Nat.reduceAdd, Nat.reduceLeDiff, Nat.reduceSub, Nat.sub_zero, Nat.sub_self, Nat.zero_add, Nat.le_refl, Nat.zero_le, List.length_cons, List.length_nil, true_and, and_true, true_or, or_true, eq_self, forall_const, true_implies, not_true_eq_false, not_false_eq_true, false_implies, implies_true, false_and, and_false, false_or, or_false, c1]
    rw [cpF_n]
    exact hQ _ _
  | succ k ih =>
    intro c e7 hc hQ
    have c1 : (nI c < nI n) = True := (ltN (by omega) (by omega)).trans (eq_true (by omega))
    have hP : cpP n (decide (i < j)) c < n := by unfold cpP; split <;> omega
    have cs := clN (v := 40 * a + i + cpP n (decide (i < j)) c) (by omega)
    have vs := inN (v := 40 * a + i + cpP n (decide (i < j)) c) (n := 320) (by omega) (by omega)
    have ct := clN (v := 40 * b + j + cpP n (decide (i < j)) c) (by omega)
    have vt := inN (v := 40 * b + j + cpP n (decide (i < j)) c) (n := 320) (by omega) (by omega)
    have tail : WX (tX6_copy K d) Q (145, [.ref 199, .int (nI a), .int (nI i), .int (nI b), .int (nI j), .int (nI n), .int (nI c), e7], [.int (nI (cpP n (decide (i < j)) c))], (0, 0), σ, setR m 202 (cpF f (40 * a + i) (40 * b + j) n (decide (i < j)) c), l) := by
      simp only [xX6_copy_145, xX6_copy_147, xX6_copy_148, xX6_copy_151, xX6_copy_153, xX6_copy_154, xX6_copy_155, xX6_copy_157, xX6_copy_158, xX6_copy_160, xX6_copy_161, xX6_copy_162, xX6_copy_165, xX6_copy_167, xX6_copy_168, xX6_copy_169, xX6_copy_170, xX6_copy_171, xX6_copy_173, xX6_copy_174, xX6_copy_175, xX6_copy_176, xX6_copy_179, Bool.false_eq_true, if_true, if_false, kl_i, kl_a, kl_s, kl_u, kl_l, okS_nil, okS_cons, cat_i, cat_a, cat_s, cat_l, Nat.reduceAdd, Nat.reduceLeDiff, Nat.reduceSub, Nat.sub_zero, Nat.sub_self, Nat.zero_add, Nat.le_refl, Nat.zero_le, List.length_cons, List.length_nil, true_and, and_true, true_or, or_true, eq_self, forall_const, true_implies, not_true_eq_false, not_false_eq_true, false_implies, implies_true, false_and, and_false, false_or, or_false, M0, R2, A202, L202, m40 a ha, m40 b hb, nIk, cs, vs, ct, vt, upM_setR, setR_s, setR_setR, nI1]
      rw [cpF_s (by omega) hov]
      exact ih (c + 1) _ (by omega) hQ
    rw [xX6_copy_120]
    simp only [xX6_copy_122, xX6_copy_124, xX6_copy_127, xX6_copy_129, xX6_copy_130, xX6_copy_133, xX6_copy_135, xX6_copy_136, xX6_copy_137, xX6_copy_139, xX6_copy_140, xX6_copy_143, Bool.false_eq_true, if_true, if_false, kl_i, kl_a, kl_s, kl_u, kl_l, okS_nil, okS_cons, cat_i, cat_a, cat_s, cat_l, Nat.reduceAdd, Nat.reduceLeDiff, Nat.reduceSub, Nat.sub_zero, Nat.sub_self, Nat.zero_add, Nat.le_refl, Nat.zero_le, List.length_cons, List.length_nil, true_and, and_true, true_or, or_true, eq_self, forall_const, true_implies, not_true_eq_false, not_false_eq_true, false_implies, implies_true, false_and, and_false, false_or, or_false, c1, cij]
    by_cases g : i < j
    · have eP : cpP n (decide (i < j)) c = n - 1 - c := by unfold cpP; rw [if_pos (decide_eq_true g)]
      have e1 : nI n - 1 - nI c = nI (n - 1 - c) := by
        have q1 : nI n - 1 = nI (n - 1) := sbN (x := n) (y := 1) (by omega)
        rw [q1, sbN (by omega)]
      rw [eP] at tail
      refine ⟨fun _ => ?_, fun g' => absurd g g'⟩
      rw [e1]
      exact tail
    · have eP : cpP n (decide (i < j)) c = c := by unfold cpP; rw [if_neg (by simpa using g)]
      rw [eP] at tail
      exact ⟨fun g' => absurd g' g, fun _ => tail⟩
