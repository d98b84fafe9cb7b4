/-! the model: what is tried, notes, bits, lacks, kinds, remembering -/
def wfM (σ : Sg) : Prop := isO σ 199 6 ∧ rf σ 199 0 = .ref 200 ∧ rf σ 199 1 = .ref 201 ∧ rf σ 199 2 = .ref 202 ∧ rf σ 199 4 = .ref 203 ∧ rf σ 199 8 = .ref 204 ∧ rf σ 199 10 = .ref 205 ∧ rf σ 199 11 = .ref 206 ∧ rf σ 199 12 = .ref 207 ∧ rf σ 199 14 = .ref 208 ∧ rf σ 199 20 = .ref 209 ∧ rf σ 199 21 = .ref 210 ∧ rf σ 199 22 = .ref 211 ∧
  isO σ 200 100 ∧ ln σ 200 = 8 ∧ isO σ 201 100 ∧ ln σ 201 = 8 ∧ isO σ 202 100 ∧ ln σ 202 = 320 ∧ isO σ 203 100 ∧ ln σ 203 = 400 ∧ isO σ 204 100 ∧ ln σ 204 = 40 ∧ isO σ 205 100 ∧ ln σ 205 = 960 ∧ isO σ 206 100 ∧ ln σ 206 = 80 ∧ isO σ 207 102 ∧ ln σ 207 = 2 ∧ isO σ 208 100 ∧ ln σ 208 = 16 ∧ isO σ 209 100 ∧ ln σ 209 = 40 ∧ isO σ 210 100 ∧ ln σ 210 = 40 ∧ isO σ 211 100 ∧ ln σ 211 = 7
theorem t_isVillage {K : Cx} {d : Nat} {σ : Sg} {m : Mm} {l : Ml} {x : Int32} {N : Nat} {Q : Rt} (hm : wfM σ) (hN : m 204 2 = nI N) (h7 : N ≤ 7) (hQ : Q (if ¬ x < 0 ∧ x < nI N then 1 else 0) σ m l) : CT K (d + 2) YX6_isVillage [.ref 199, .int x] σ m l Q := by
  obtain ⟨M0, R0, R1, R2, R4, R8, R10, R11, R12, R14, R20, R21, R22, A200, L200, A201, L201, A202, L202, A203, L203, A204, L204, A205, L205, A206, L206, A207, L207, A208, L208, A209, L209, A210, L210, A211, L211⟩ := hm
  refine kX6_isVillage ?_
  simp only [xX6_isVillage_0, xX6_isVillage_1, xX6_isVillage_2, xX6_isVillage_3, xX6_isVillage_4, xX6_isVillage_7, xX6_isVillage_8, xX6_isVillage_9, xX6_isVillage_10, xX6_isVillage_11, xX6_isVillage_12, xX6_isVillage_15, Bool.false_eq_true, if_true, if_false, kl_i, kl_a, kl_s, kl_u, kl_l, okS_nil, okS_cons, cat_i, cat_a, cat_s, cat_l, Nat.reduceAdd, Nat.reduceLeDiff, Nat.reduceSub, Nat.sub_zero, Nat.sub_self, Nat.zero_add, Nat.le_refl, Nat.zero_le, List.length_cons, List.length_nil, true_and, and_true, true_or, or_true, eq_self, forall_const, true_implies, not_true_eq_false, not_false_eq_true, false_implies, implies_true, false_and, and_false, false_or, or_false, M0, R8, A204, L204, k5, k12, k19, k26, k33, cl0, cl1, cl2, cl3, cl4, vi0, vi1, vi2, vi3, vi4, hN]
  refine t_inI (a := 0) (b := nI N - 1) rfl rfl ?_
  have e : (¬ nI N - 1 < x) = (x < nI N) := by
    refine propext ?_
    rw [Int32.lt_iff_toInt_lt, Int32.lt_iff_toInt_lt]
    have h1 : (nI N).toInt = (N : Int) := nI_toInt (by omega)
    have h2 : (nI N - 1).toInt = (N : Int) - 1 := by
      rw [Int32.toInt_sub, h1, show (1 : Int32).toInt = 1 by decide]
      exact Int.bmod_eq_of_le (by omega) (by omega)
    omega
  simp only [xX6_isVillage_0, xX6_isVillage_1, xX6_isVillage_2, xX6_isVillage_3, xX6_isVillage_4, xX6_isVillage_7, xX6_isVillage_8, xX6_isVillage_9, xX6_isVillage_10, xX6_isVillage_11, xX6_isVillage_12, xX6_isVillage_15, Bool.false_eq_true, if_true, if_false, kl_i, kl_a, kl_s, kl_u, kl_l, okS_nil, okS_cons, cat_i, cat_a, cat_s, cat_l, Nat.reduceAdd, Nat.reduceLeDiff, Nat.reduceSub, Nat.sub_zero, Nat.sub_self, Nat.zero_add, Nat.le_refl, Nat.zero_le, List.length_cons, List.length_nil, true_and, and_true, true_or, or_true, eq_self, forall_const, true_implies, not_true_eq_false, not_false_eq_true, false_implies, implies_true, false_and, and_false, false_or, or_false, e, if01]
  exact hQ
def cpA (f g : Nat → Int32) : Nat → Int32 := va_cpy f g 0 0 40
theorem t_tries {K : Cx} {d : Nat} {σ : Sg} {m : Mm} {l : Ml} {Q : Rt} (hm : wfM σ) (hQ : Q 0 σ (setR m 210 (cpA (m 204) (m 210))) l) : CT K (d + 2) YX6_tries [.ref 199] σ m l Q := by
  obtain ⟨M0, R0, R1, R2, R4, R8, R10, R11, R12, R14, R20, R21, R22, A200, L200, A201, L201, A202, L202, A203, L203, A204, L204, A205, L205, A206, L206, A207, L207, A208, L208, A209, L209, A210, L210, A211, L211⟩ := hm
  refine kX6_tries ?_
  simp only [xX6_tries_0, xX6_tries_1, xX6_tries_4, xX6_tries_5, xX6_tries_6, xX6_tries_9, xX6_tries_10, xX6_tries_13, Bool.false_eq_true, if_true, if_false, kl_i, kl_a, kl_s, kl_u, kl_l, okS_nil, okS_cons, cat_i, cat_a, cat_s, cat_l, Nat.reduceAdd, Nat.reduceLeDiff, Nat.reduceSub, Nat.sub_zero, Nat.sub_self, Nat.zero_add, Nat.le_refl, Nat.zero_le, List.length_cons, List.length_nil, true_and, and_true, true_or, or_true, eq_self, forall_const, true_implies, not_true_eq_false, not_false_eq_true, false_implies, implies_true, false_and, and_false, false_or, or_false, M0, R8, R21]
  refine t_mCopies (i := 0) (j := 0) A204 A210 L204 L210 (by omega) (by omega) (by omega) (by omega) (by decide) ?_
  exact hQ
def liM (N : Nat) : Nat → Nat → (Nat → Int32) → Int32 × (Nat → Int32)
  | 0, _, q => (-1000000, q)
  | k + 1, d, q => if goS N q 0 = 0 then liM N k (d + 1) (goQ N q 0) else (nI d, goQ N q 0)
theorem l_li {K : Cx} {d : Nat} {σ : Sg} {m : Mm} {l : Ml} {N n : Nat} {Q : Rt} (hm : wfM σ) (h7 : N ≤ 7) (hn : n ≤ 100) : ∀ (k v : Nat) (q : Nat → Int32), v + k = n → q 2 = nI N → Q (liM N k v q).1 σ (setR m 210 (liM N k v q).2) l → WX (tX6_lacksIn K (d + 3)) Q (2, [.ref 199, .int (nI n), .int (nI v)], [], (0, 0), σ, setR m 210 q, l) := by
  obtain ⟨M0, R0, R1, R2, R4, R8, R10, R11, R12, R14, R20, R21, R22, A200, L200, A201, L201, A202, L202, A203, L203, A204, L204, A205, L205, A206, L206, A207, L207, A208, L208, A209, L209, A210, L210, A211, L211⟩ := hm
  intro k
  induction k with
  | zero =>
    intro v q hv hN hQ
    have c1 : (nI v < nI n) = False := by rw [ltN (by omega) (by omega)]; exact eq_false (by omega)
    rw [xX6_lacksIn_2]
    simp only [xX6_lacksIn_0, xX6_lacksIn_1, xX6_lacksIn_3, xX6_lacksIn_4, xX6_lacksIn_7, xX6_lacksIn_8, xX6_lacksIn_11, xX6_lacksIn_12, xX6_lacksIn_15, xX6_lacksIn_18, xX6_lacksIn_19, xX6_lacksIn_20, xX6_lacksIn_23, xX6_lacksIn_26, xX6_lacksIn_28, Bool.false_eq_true, if_true, if_false, kl_i, kl_a, kl_s, kl_u, kl_l, okS_nil, okS_cons, cat_i, cat_a, cat_s, cat_l, Nat.reduceAdd, Nat.reduceLeDiff, Nat.reduceSub, Nat.sub_zero, Nat.sub_self, Nat.zero_add, Nat.le_refl, Nat.zero_le, List.length_cons, List.length_nil, true_and, and_true, true_or, or_true, eq_self, forall_const, true_implies, not_true_eq_false, not_false_eq_true, false_implies, implies_true, false_and, and_false, false_or, or_false, c1]
    exact hQ
  | succ k ih =>
    intro v q hv hN hQ
    have c1 : (nI v < nI n) = True := by rw [ltN (by omega) (by omega)]; exact eq_true (by omega)
    rw [xX6_lacksIn_2]
    simp only [xX6_lacksIn_0, xX6_lacksIn_1, xX6_lacksIn_3, xX6_lacksIn_4, xX6_lacksIn_7, xX6_lacksIn_8, xX6_lacksIn_11, xX6_lacksIn_12, xX6_lacksIn_15, xX6_lacksIn_18, xX6_lacksIn_19, xX6_lacksIn_20, xX6_lacksIn_23, xX6_lacksIn_26, xX6_lacksIn_28, Bool.false_eq_true, if_true, if_false, kl_i, kl_a, kl_s, kl_u, kl_l, okS_nil, okS_cons, cat_i, cat_a, cat_s, cat_l, Nat.reduceAdd, Nat.reduceLeDiff, Nat.reduceSub, Nat.sub_zero, Nat.sub_self, Nat.zero_add, Nat.le_refl, Nat.zero_le, List.length_cons, List.length_nil, true_and, and_true, true_or, or_true, eq_self, forall_const, true_implies, not_true_eq_false, not_false_eq_true, false_implies, implies_true, false_and, and_false, false_or, or_false, c1, M0, R21]
    refine t_mGoes ⟨A210, L210⟩ hN h7 ?_
    simp only [liM] at hQ
    by_cases h0 : goS N q 0 = 0
    · simp only [xX6_lacksIn_0, xX6_lacksIn_1, xX6_lacksIn_3, xX6_lacksIn_4, xX6_lacksIn_7, xX6_lacksIn_8, xX6_lacksIn_11, xX6_lacksIn_12, xX6_lacksIn_15, xX6_lacksIn_18, xX6_lacksIn_19, xX6_lacksIn_20, xX6_lacksIn_23, xX6_lacksIn_26, xX6_lacksIn_28, Bool.false_eq_true, if_true, if_false, kl_i, kl_a, kl_s, kl_u, kl_l, okS_nil, okS_cons, cat_i, cat_a, cat_s, cat_l, Nat.reduceAdd, Nat.reduceLeDiff, Nat.reduceSub, Nat.sub_zero, Nat.sub_self, Nat.zero_add, Nat.le_refl, Nat.zero_le, List.length_cons, List.length_nil, true_and, and_true, true_or, or_true, eq_self, forall_const, true_implies, not_true_eq_false, not_false_eq_true, false_implies, implies_true, false_and, and_false, false_or, or_false, nI1, h0] at hQ ⊢
      exact ih (v + 1) _ (by omega) (by rw [goQ_2 N h7]; exact hN) hQ
    · simp only [xX6_lacksIn_0, xX6_lacksIn_1, xX6_lacksIn_3, xX6_lacksIn_4, xX6_lacksIn_7, xX6_lacksIn_8, xX6_lacksIn_11, xX6_lacksIn_12, xX6_lacksIn_15, xX6_lacksIn_18, xX6_lacksIn_19, xX6_lacksIn_20, xX6_lacksIn_23, xX6_lacksIn_26, xX6_lacksIn_28, Bool.false_eq_true, if_true, if_false, kl_i, kl_a, kl_s, kl_u, kl_l, okS_nil, okS_cons, cat_i, cat_a, cat_s, cat_l, Nat.reduceAdd, Nat.reduceLeDiff, Nat.reduceSub, Nat.sub_zero, Nat.sub_self, Nat.zero_add, Nat.le_refl, Nat.zero_le, List.length_cons, List.length_nil, true_and, and_true, true_or, or_true, eq_self, forall_const, true_implies, not_true_eq_false, not_false_eq_true, false_implies, implies_true, false_and, and_false, false_or, or_false, nI1, h0] at hQ ⊢
      exact hQ
theorem t_lacksIn {K : Cx} {d : Nat} {σ : Sg} {m : Mm} {l : Ml} {N n : Nat} {q : Nat → Int32} {Q : Rt} (hm : wfM σ) (h7 : N ≤ 7) (hn : n ≤ 100) (hN : q 2 = nI N) (hQ : Q (liM N n 0 q).1 σ (setR m 210 (liM N n 0 q).2) l) : CT K (d + 4) YX6_lacksIn [.ref 199, .int (nI n)] σ (setR m 210 q) l Q := by
  refine kX6_lacksIn ?_
  simp only [xX6_lacksIn_0, xX6_lacksIn_1, Bool.false_eq_true, if_true, if_false, kl_i, kl_a, kl_s, kl_u, kl_l, okS_nil, okS_cons, cat_i, cat_a, cat_s, cat_l, Nat.reduceAdd, Nat.reduceLeDiff, Nat.reduceSub, Nat.sub_zero, Nat.sub_self, Nat.zero_add, Nat.le_refl, Nat.zero_le, List.length_cons, List.length_nil, true_and, and_true, true_or, or_true, eq_self, forall_const, true_implies, not_true_eq_false, not_false_eq_true, false_implies, implies_true, false_and, and_false, false_or, or_false]
  exact l_li hm h7 hn n 0 q (by omega) hN hQ
theorem l_as {K : Cx} {d : Nat} {σ : Sg} {m : Mm} {l : Ml} {N : Nat} {Q : Rt} (hm : wfM σ) (h7 : N ≤ 7) (hN : m 204 2 = nI N) : ∀ (k v : Nat) (b : Bool), v + k = N → Q (if b && sameF (fun v => m 210 (26 + v)) (m 211) v k then 1 else 0) σ m l → WX (tX6_isAsNow K d) Q (4, [.ref 199, .int (if b then 1 else 0), .int (nI v)], [], (0, 0), σ, m, l) := by
  obtain ⟨M0, R0, R1, R2, R4, R8, R10, R11, R12, R14, R20, R21, R22, A200, L200, A201, L201, A202, L202, A203, L203, A204, L204, A205, L205, A206, L206, A207, L207, A208, L208, A209, L209, A210, L210, A211, L211⟩ := hm
  intro k
  induction k with
  | zero =>
    intro v b hv hQ
    have c1 : (nI v < nI N) = False := by rw [ltN (by omega) (by omega)]; exact eq_false (by omega)
    rw [xX6_isAsNow_4]
    simp only [xX6_isAsNow_0, xX6_isAsNow_1, xX6_isAsNow_2, xX6_isAsNow_3, xX6_isAsNow_5, xX6_isAsNow_6, xX6_isAsNow_9, xX6_isAsNow_10, xX6_isAsNow_11, xX6_isAsNow_14, xX6_isAsNow_15, xX6_isAsNow_18, xX6_isAsNow_19, xX6_isAsNow_22, xX6_isAsNow_24, xX6_isAsNow_25, xX6_isAsNow_26, xX6_isAsNow_27, xX6_isAsNow_28, xX6_isAsNow_31, xX6_isAsNow_32, xX6_isAsNow_33, xX6_isAsNow_36, xX6_isAsNow_37, xX6_isAsNow_40, xX6_isAsNow_41, xX6_isAsNow_42, xX6_isAsNow_45, xX6_isAsNow_48, xX6_isAsNow_49, Bool.false_eq_true, if_true, if_false, kl_i, kl_a, kl_s, kl_u, kl_l, okS_nil, okS_cons, cat_i, cat_a, cat_s, cat_l, Nat.reduceAdd, Nat.reduceLeDiff, Nat.reduceSub, Nat.sub_zero, Nat.sub_self, Nat.zero_add, Nat.le_refl, Nat.zero_le, List.length_cons, List.length_nil, true_and, and_true, true_or, or_true, eq_self, forall_const, true_implies, not_true_eq_false, not_false_eq_true, false_implies, implies_true, false_and, and_false, false_or, or_false, c1, M0, R8, A204, L204, k5, k12, k19, k26, k33, cl0, cl1, cl2, cl3, cl4, vi0, vi1, vi2, vi3, vi4, hN, if01]
    simpa [sameF] using hQ
  | succ k ih =>
    intro v b hv hQ
    have c1 : (nI v < nI N) = True := by rw [ltN (by omega) (by omega)]; exact eq_true (by omega)
    have c26 := clN (v := 26 + v) (by omega)
    have n26 := inN (v := 26 + v) (n := 40) (by omega) (by omega)
    have cv := clN (v := v) (by omega)
    have nv := inN (v := v) (n := 7) (by omega) (by omega)
    rw [xX6_isAsNow_4]
    simp only [sameF] at hQ
    cases b with
    | false =>
      simp only [xX6_isAsNow_0, xX6_isAsNow_1, xX6_isAsNow_2, xX6_isAsNow_3, xX6_isAsNow_5, xX6_isAsNow_6, xX6_isAsNow_9, xX6_isAsNow_10, xX6_isAsNow_11, xX6_isAsNow_14, xX6_isAsNow_15, xX6_isAsNow_18, xX6_isAsNow_19, xX6_isAsNow_22, xX6_isAsNow_24, xX6_isAsNow_25, xX6_isAsNow_26, xX6_isAsNow_27, xX6_isAsNow_28, xX6_isAsNow_31, xX6_isAsNow_32, xX6_isAsNow_33, xX6_isAsNow_36, xX6_isAsNow_37, xX6_isAsNow_40, xX6_isAsNow_41, xX6_isAsNow_42, xX6_isAsNow_45, xX6_isAsNow_48, xX6_isAsNow_49, Bool.false_eq_true, if_true, if_false, kl_i, kl_a, kl_s, kl_u, kl_l, okS_nil, okS_cons, cat_i, cat_a, cat_s, cat_l, Nat.reduceAdd, Nat.reduceLeDiff, Nat.reduceSub, Nat.sub_zero, Nat.sub_self, Nat.zero_add, Nat.le_refl, Nat.zero_le, List.length_cons, List.length_nil, true_and, and_true, true_or, or_true, eq_self, forall_const, true_implies, not_true_eq_false, not_false_eq_true, false_implies, implies_true, false_and, and_false, false_or, or_false, c1, M0, R8, A204, L204, k5, k12, k19, k26, k33, cl0, cl1, cl2, cl3, cl4, vi0, vi1, vi2, vi3, vi4, hN, nI1]
      exact ih (v + 1) false (by omega) (by simpa using hQ)
    | true =>
      by_cases h : m 210 (26 + v) = m 211 v
      · simp only [xX6_isAsNow_0, xX6_isAsNow_1, xX6_isAsNow_2, xX6_isAsNow_3, xX6_isAsNow_5, xX6_isAsNow_6, xX6_isAsNow_9, xX6_isAsNow_10, xX6_isAsNow_11, xX6_isAsNow_14, xX6_isAsNow_15, xX6_isAsNow_18, xX6_isAsNow_19, xX6_isAsNow_22, xX6_isAsNow_24, xX6_isAsNow_25, xX6_isAsNow_26, xX6_isAsNow_27, xX6_isAsNow_28, xX6_isAsNow_31, xX6_isAsNow_32, xX6_isAsNow_33, xX6_isAsNow_36, xX6_isAsNow_37, xX6_isAsNow_40, xX6_isAsNow_41, xX6_isAsNow_42, xX6_isAsNow_45, xX6_isAsNow_48, xX6_isAsNow_49, Bool.false_eq_true, if_true, if_false, kl_i, kl_a, kl_s, kl_u, kl_l, okS_nil, okS_cons, cat_i, cat_a, cat_s, cat_l, Nat.reduceAdd, Nat.reduceLeDiff, Nat.reduceSub, Nat.sub_zero, Nat.sub_self, Nat.zero_add, Nat.le_refl, Nat.zero_le, List.length_cons, List.length_nil, true_and, and_true, true_or, or_true, eq_self, forall_const, true_implies, not_true_eq_false, not_false_eq_true, false_implies, implies_true, false_and, and_false, false_or, or_false, c1, M0, R8, R21, R22, A204, L204, A210, L210, A211, L211, k5, k12, k19, k26, k33, cl0, cl1, cl2, cl3, cl4, vi0, vi1, vi2, vi3, vi4, hN, nI1, c26, n26, cv, nv, h, i10] at hQ ⊢
        exact ih (v + 1) true (by omega) hQ
      · simp only [xX6_isAsNow_0, xX6_isAsNow_1, xX6_isAsNow_2, xX6_isAsNow_3, xX6_isAsNow_5, xX6_isAsNow_6, xX6_isAsNow_9, xX6_isAsNow_10, xX6_isAsNow_11, xX6_isAsNow_14, xX6_isAsNow_15, xX6_isAsNow_18, xX6_isAsNow_19, xX6_isAsNow_22, xX6_isAsNow_24, xX6_isAsNow_25, xX6_isAsNow_26, xX6_isAsNow_27, xX6_isAsNow_28, xX6_isAsNow_31, xX6_isAsNow_32, xX6_isAsNow_33, xX6_isAsNow_36, xX6_isAsNow_37, xX6_isAsNow_40, xX6_isAsNow_41, xX6_isAsNow_42, xX6_isAsNow_45, xX6_isAsNow_48, xX6_isAsNow_49, Bool.false_eq_true, if_true, if_false, kl_i, kl_a, kl_s, kl_u, kl_l, okS_nil, okS_cons, cat_i, cat_a, cat_s, cat_l, Nat.reduceAdd, Nat.reduceLeDiff, Nat.reduceSub, Nat.sub_zero, Nat.sub_self, Nat.zero_add, Nat.le_refl, Nat.zero_le, List.length_cons, List.length_nil, true_and, and_true, true_or, or_true, eq_self, forall_const, true_implies, not_true_eq_false, not_false_eq_true, false_implies, implies_true, false_and, and_false, false_or, or_false, c1, M0, R8, R21, R22, A204, L204, A210, L210, A211, L211, k5, k12, k19, k26, k33, cl0, cl1, cl2, cl3, cl4, vi0, vi1, vi2, vi3, vi4, hN, nI1, c26, n26, cv, nv, h, i10] at hQ ⊢
        exact ih (v + 1) false (by omega) (by simpa using hQ)
theorem t_isAsNow {K : Cx} {d : Nat} {σ : Sg} {m : Mm} {l : Ml} {N : Nat} {Q : Rt} (hm : wfM σ) (h7 : N ≤ 7) (hN : m 204 2 = nI N) (hQ : Q (if sameF (fun v => m 210 (26 + v)) (m 211) 0 N then 1 else 0) σ m l) : CT K (d + 1) YX6_isAsNow [.ref 199] σ m l Q := by
  refine kX6_isAsNow ?_
  simp only [xX6_isAsNow_0, xX6_isAsNow_1, xX6_isAsNow_2, xX6_isAsNow_3, Bool.false_eq_true, if_true, if_false, kl_i, kl_a, kl_s, kl_u, kl_l, okS_nil, okS_cons, cat_i, cat_a, cat_s, cat_l, Nat.reduceAdd, Nat.reduceLeDiff, Nat.reduceSub, Nat.sub_zero, Nat.sub_self, Nat.zero_add, Nat.le_refl, Nat.zero_le, List.length_cons, List.length_nil, true_and, and_true, true_or, or_true, eq_self, forall_const, true_implies, not_true_eq_false, not_false_eq_true, false_implies, implies_true, false_and, and_false, false_or, or_false]
  exact l_as hm h7 hN N 0 true (by omega) (by simpa using hQ)
def ntF (q f : Nat → Int32) (v : Nat) : Nat → Int32 := fun k => if k < v then q (26 + k) else f k
theorem l_notes {K : Cx} {d : Nat} {σ : Sg} {m : Mm} {l : Ml} {N : Nat} {Q : Rt} (hm : wfM σ) (h7 : N ≤ 7) (hN : m 204 2 = nI N) : ∀ (k v : Nat), v + k = N → Q 0 σ (setR m 211 (ntF (m 210) (m 211) N)) l → WX (tX6_notes K d) Q (2, [.ref 199, .int (nI v)], [], (0, 0), σ, setR m 211 (ntF (m 210) (m 211) v), l) := by
  obtain ⟨M0, R0, R1, R2, R4, R8, R10, R11, R12, R14, R20, R21, R22, A200, L200, A201, L201, A202, L202, A203, L203, A204, L204, A205, L205, A206, L206, A207, L207, A208, L208, A209, L209, A210, L210, A211, L211⟩ := hm
  have w1 : ∀ f, setR m 211 f 204 = m 204 := fun f => setR_n _ _ (by decide)
  have w2 : ∀ f, setR m 211 f 210 = m 210 := fun f => setR_n _ _ (by decide)
  intro k
  induction k with
  | zero =>
    intro v hv hQ
    obtain rfl : v = N := by omega
    have c1 : (nI v < nI v) = False := by rw [ltN (by omega) (by omega)]; exact eq_false (by omega)
    rw [xX6_notes_2]
    simp only [xX6_notes_0, xX6_notes_1, xX6_notes_3, xX6_notes_4, xX6_notes_7, xX6_notes_8, xX6_notes_9, xX6_notes_12, xX6_notes_13, xX6_notes_16, xX6_notes_17, xX6_notes_18, xX6_notes_21, xX6_notes_23, xX6_notes_24, xX6_notes_25, xX6_notes_26, xX6_notes_27, xX6_notes_30, xX6_notes_33, Bool.false_eq_true, if_true, if_false, kl_i, kl_a, kl_s, kl_u, kl_l, okS_nil, okS_cons, cat_i, cat_a, cat_s, cat_l, Nat.reduceAdd, Nat.reduceLeDiff, Nat.reduceSub, Nat.sub_zero, Nat.sub_self, Nat.zero_add, Nat.le_refl, Nat.zero_le, List.length_cons, List.length_nil, true_and, and_true, true_or, or_true, eq_self, forall_const, true_implies, not_true_eq_false, not_false_eq_true, false_implies, implies_true, false_and, and_false, false_or, or_false, c1, M0, R8, A204, L204, k5, k12, k19, k26, k33, cl0, cl1, cl2, cl3, cl4, vi0, vi1, vi2, vi3, vi4, hN, w1]
    exact hQ
  | succ k ih =>
    intro v hv hQ
    have c1 : (nI v < nI N) = True := by rw [ltN (by omega) (by omega)]; exact eq_true (by omega)
    have c26 := clN (v := 26 + v) (by omega)
    have n26 := inN (v := 26 + v) (n := 40) (by omega) (by omega)
    have cv := clN (v := v) (by omega)
    have nv := inN (v := v) (n := 7) (by omega) (by omega)
    rw [xX6_notes_2]
    simp only [xX6_notes_0, xX6_notes_1, xX6_notes_3, xX6_notes_4, xX6_notes_7, xX6_notes_8, xX6_notes_9, xX6_notes_12, xX6_notes_13, xX6_notes_16, xX6_notes_17, xX6_notes_18, xX6_notes_21, xX6_notes_23, xX6_notes_24, xX6_notes_25, xX6_notes_26, xX6_notes_27, xX6_notes_30, xX6_notes_33, Bool.false_eq_true, if_true, if_false, kl_i, kl_a, kl_s, kl_u, kl_l, okS_nil, okS_cons, cat_i, cat_a, cat_s, cat_l, Nat.reduceAdd, Nat.reduceLeDiff, Nat.reduceSub, Nat.sub_zero, Nat.sub_self, Nat.zero_add, Nat.le_refl, Nat.zero_le, List.length_cons, List.length_nil, true_and, and_true, true_or, or_true, eq_self, forall_const, true_implies, not_true_eq_false, not_false_eq_true, false_implies, implies_true, false_and, and_false, false_or, or_false, c1, M0, R8, R21, R22, A204, L204, A210, L210, A211, L211, k5, k12, k19, k26, k33, cl0, cl1, cl2, cl3, cl4, vi0, vi1, vi2, vi3, vi4, hN, w1, w2, nI1, c26, n26, cv, nv, upM_setR, setR_setR, setR_s]
    have e : upd (ntF (m 210) (m 211) v) v (m 210 (26 + v)) = ntF (m 210) (m 211) (v + 1) := by
      funext k
      simp only [upd, ntF]
      by_cases h : k = v
      · subst h; rw [if_pos rfl, if_pos (by omega)]
      · rw [if_neg h]
        by_cases h2 : k < v
        · rw [if_pos h2, if_pos (by omega)]
        · rw [if_neg h2, if_neg (by omega)]
    rw [e]
    exact ih (v + 1) (by omega) hQ
theorem t_notes {K : Cx} {d : Nat} {σ : Sg} {m : Mm} {l : Ml} {N : Nat} {Q : Rt} (hm : wfM σ) (h7 : N ≤ 7) (hN : m 204 2 = nI N) (hQ : Q 0 σ (setR m 211 (ntF (m 210) (m 211) N)) l) : CT K (d + 1) YX6_notes [.ref 199] σ m l Q := by
  refine kX6_notes ?_
  have key := l_notes (K := K) (d := d) (l := l) hm h7 hN N 0 (by omega) hQ
  have e : setR m 211 (ntF (m 210) (m 211) 0) = m := by
    have : ntF (m 210) (m 211) 0 = m 211 := by
      funext k
      simp only [ntF]
      rw [if_neg (by omega)]
    rw [this]
    exact setR_id m 211
  rw [e] at key
  simp only [xX6_notes_0, xX6_notes_1, Bool.false_eq_true, if_true, if_false, kl_i, kl_a, kl_s, kl_u, kl_l, okS_nil, okS_cons, cat_i, cat_a, cat_s, cat_l, Nat.reduceAdd, Nat.reduceLeDiff, Nat.reduceSub, Nat.sub_zero, Nat.sub_self, Nat.zero_add, Nat.le_refl, Nat.zero_le, List.length_cons, List.length_nil, true_and, and_true, true_or, or_true, eq_self, forall_const, true_implies, not_true_eq_false, not_false_eq_true, false_implies, implies_true, false_and, and_false, false_or, or_false]
  exact key
def btL : Nat → Int32 → Int32 → Int32
  | 0, _, n => n
  | k + 1, x, n => if x = 0 then n else btL k (x &&& (x - 1)) (n + 1)
def ewL : Nat → Int32 → Bool
  | 0, x => decide (x = 0)
  | k + 1, x => decide (x = 0) || ewL k (x &&& (x - 1))
theorem l_bits {K : Cx} {d : Nat} {σ : Sg} {m : Mm} {l : Ml} {s : Int32} {Q : Rt} : ∀ (k : Nat) (x n : Int32), ewL k x = true → Q (btL k x n) σ m l → WX (tX6_bits K d) Q (4, [.int s, .int n, .int x], [], (0, 0), σ, m, l) := by
  intro k
  induction k with
  | zero =>
    intro x n he hQ
    have h0 : x = 0 := by simpa [ewL] using he
    rw [xX6_bits_4]
    simp only [xX6_bits_0, xX6_bits_1, xX6_bits_2, xX6_bits_3, xX6_bits_5, xX6_bits_8, xX6_bits_11, xX6_bits_12, xX6_bits_13, xX6_bits_14, xX6_bits_15, xX6_bits_16, xX6_bits_17, xX6_bits_20, xX6_bits_21, Bool.false_eq_true, if_true, if_false, kl_i, kl_a, kl_s, kl_u, kl_l, okS_nil, okS_cons, cat_i, cat_a, cat_s, cat_l, Nat.reduceAdd, Nat.reduceLeDiff, Nat.reduceSub, Nat.sub_zero, Nat.sub_self, Nat.zero_add, Nat.le_refl, Nat.zero_le, List.length_cons, List.length_nil, true_and, and_true, true_or, or_true, eq_self, forall_const, true_implies, not_true_eq_false, not_false_eq_true, false_implies, implies_true, false_and, and_false, false_or, or_false, h0]
    exact hQ
  | succ k ih =>
    intro x n he hQ
    rw [xX6_bits_4]
    simp only [btL] at hQ
    by_cases h0 : x = 0
    · simp only [xX6_bits_0, xX6_bits_1, xX6_bits_2, xX6_bits_3, xX6_bits_5, xX6_bits_8, xX6_bits_11, xX6_bits_12, xX6_bits_13, xX6_bits_14, xX6_bits_15, xX6_bits_16, xX6_bits_17, xX6_bits_20, xX6_bits_21, Bool.false_eq_true, if_true, if_false, kl_i, kl_a, kl_s, kl_u, kl_l, okS_nil, okS_cons, cat_i, cat_a, cat_s, cat_l, Nat.reduceAdd, Nat.reduceLeDiff, Nat.reduceSub, Nat.sub_zero, Nat.sub_self, Nat.zero_add, Nat.le_refl, Nat.zero_le, List.length_cons, List.length_nil, true_and, and_true, true_or, or_true, eq_self, forall_const, true_implies, not_true_eq_false, not_false_eq_true, false_implies, implies_true, false_and, and_false, false_or, or_false, h0] at hQ ⊢
      exact hQ
    · simp only [xX6_bits_0, xX6_bits_1, xX6_bits_2, xX6_bits_3, xX6_bits_5, xX6_bits_8, xX6_bits_11, xX6_bits_12, xX6_bits_13, xX6_bits_14, xX6_bits_15, xX6_bits_16, xX6_bits_17, xX6_bits_20, xX6_bits_21, Bool.false_eq_true, if_true, if_false, kl_i, kl_a, kl_s, kl_u, kl_l, okS_nil, okS_cons, cat_i, cat_a, cat_s, cat_l, Nat.reduceAdd, Nat.reduceLeDiff, Nat.reduceSub, Nat.sub_zero, Nat.sub_self, Nat.zero_add, Nat.le_refl, Nat.zero_le, List.length_cons, List.length_nil, true_and, and_true, true_or, or_true, eq_self, forall_const, true_implies, not_true_eq_false, not_false_eq_true, false_implies, implies_true, false_and, and_false, false_or, or_false, h0] at hQ ⊢
      exact ih _ _ (by simpa [ewL, h0] using he) hQ
def bts (s : Int32) : Int32 := btL 7 s 0
theorem ew7 : ∀ s : Nat, s < 128 → ewL 7 (nI s) = true := by decide +kernel
theorem t_bits {K : Cx} {d : Nat} {σ : Sg} {m : Mm} {l : Ml} {s : Nat} {Q : Rt} (hs : s < 128) (hQ : Q (bts (nI s)) σ m l) : CT K (d + 1) YX6_bits [.int (nI s)] σ m l Q := by
  refine kX6_bits ?_
  simp only [xX6_bits_0, xX6_bits_1, xX6_bits_2, xX6_bits_3, Bool.false_eq_true, if_true, if_false, kl_i, kl_a, kl_s, kl_u, kl_l, okS_nil, okS_cons, cat_i, cat_a, cat_s, cat_l, Nat.reduceAdd, Nat.reduceLeDiff, Nat.reduceSub, Nat.sub_zero, Nat.sub_self, Nat.zero_add, Nat.le_refl, Nat.zero_le, List.length_cons, List.length_nil, true_and, and_true, true_or, or_true, eq_self, forall_const, true_implies, not_true_eq_false, not_false_eq_true, false_implies, implies_true, false_and, and_false, false_or, or_false]
  exact l_bits 7 (nI s) 0 (ew7 s hs) hQ
def moI (own k : Int32) : Bool := decide (k = 0) || decide (own = k) || (decide (k = 1) && (decide (own = 2) || decide (own = 3))) || (decide (k = 4) && decide (own = 5))
theorem t_isOf {K : Cx} {d : Nat} {σ : Sg} {m : Mm} {l : Ml} {x y : Int32} {Q : Rt} (hQ : Q (if moI x y then 1 else 0) σ m l) : CT K (d + 1) YX6_isOf [.int x, .int y] σ m l Q := by
  refine kX6_isOf ?_
  simp only [xX6_isOf_0, xX6_isOf_1, xX6_isOf_4, xX6_isOf_5, xX6_isOf_6, xX6_isOf_9, xX6_isOf_10, xX6_isOf_11, xX6_isOf_14, xX6_isOf_15, xX6_isOf_16, xX6_isOf_19, xX6_isOf_20, xX6_isOf_21, xX6_isOf_24, xX6_isOf_25, xX6_isOf_26, xX6_isOf_29, xX6_isOf_30, xX6_isOf_31, xX6_isOf_34, xX6_isOf_35, xX6_isOf_38, xX6_isOf_39, Bool.false_eq_true, if_true, if_false, kl_i, kl_a, kl_s, kl_u, kl_l, okS_nil, okS_cons, cat_i, cat_a, cat_s, cat_l, Nat.reduceAdd, Nat.reduceLeDiff, Nat.reduceSub, Nat.sub_zero, Nat.sub_self, Nat.zero_add, Nat.le_refl, Nat.zero_le, List.length_cons, List.length_nil, true_and, and_true, true_or, or_true, eq_self, forall_const, true_implies, not_true_eq_false, not_false_eq_true, false_implies, implies_true, false_and, and_false, false_or, or_false]
  unfold moI at hQ
  by_cases h0 : y = 0
  · simp only [h0, decide_true, Bool.true_or, Bool.false_eq_true, if_true, if_false, kl_i, kl_a, kl_s, kl_u, kl_l, okS_nil, okS_cons, cat_i, cat_a, cat_s, cat_l, Nat.reduceAdd, Nat.reduceLeDiff, Nat.reduceSub, Nat.sub_zero, Nat.sub_self, Nat.zero_add, Nat.le_refl, Nat.zero_le, List.length_cons, List.length_nil, true_and, and_true, true_or, or_true, eq_self, forall_const, true_implies, not_true_eq_false, not_false_eq_true, false_implies, implies_true, false_and, and_false, false_or, or_false] at hQ ⊢
    exact hQ
  by_cases h1 : x = y
  · simp only [h0, h1, decide_true, decide_false, Bool.true_or, Bool.or_true, Bool.false_eq_true, if_true, if_false, kl_i, kl_a, kl_s, kl_u, kl_l, okS_nil, okS_cons, cat_i, cat_a, cat_s, cat_l, Nat.reduceAdd, Nat.reduceLeDiff, Nat.reduceSub, Nat.sub_zero, Nat.sub_self, Nat.zero_add, Nat.le_refl, Nat.zero_le, List.length_cons, List.length_nil, true_and, and_true, true_or, or_true, eq_self, forall_const, true_implies, not_true_eq_false, not_false_eq_true, false_implies, implies_true, false_and, and_false, false_or, or_false] at hQ ⊢
    exact hQ
  by_cases h2 : y = 1
  · subst h2
    by_cases h3 : x = 2
    · subst h3; exact ⟨fun h => absurd h (by decide), fun _ => ⟨fun h => absurd h (by decide), fun _ => ⟨fun _ => ⟨fun _ => hQ, fun h => absurd rfl h⟩, fun h => absurd rfl h⟩⟩⟩
    · by_cases h4 : x = 3
      · subst h4; exact ⟨fun h => absurd h (by decide), fun _ => ⟨fun h => absurd h (by decide), fun _ => ⟨fun _ => ⟨fun h => absurd h (by decide), fun _ => ⟨fun _ => hQ, fun h => absurd rfl h⟩⟩, fun h => absurd rfl h⟩⟩⟩
      · simp only [h1, h3, h4, decide_true, decide_false, Bool.false_or, Bool.and_false, Bool.false_and, i10, i14, Bool.false_eq_true, if_true, if_false, kl_i, kl_a, kl_s, kl_u, kl_l, okS_nil, okS_cons, cat_i, cat_a, cat_s, cat_l, Nat.reduceAdd, Nat.reduceLeDiff, Nat.reduceSub, Nat.sub_zero, Nat.sub_self, Nat.zero_add, Nat.le_refl, Nat.zero_le, List.length_cons, List.length_nil, true_and, and_true, true_or, or_true, eq_self, forall_const, true_implies, not_true_eq_false, not_false_eq_true, false_implies, implies_true, false_and, and_false, false_or, or_false] at hQ ⊢
        exact hQ
  by_cases h3 : y = 4
  · subst h3
    by_cases h4 : x = 5
    · subst h4; exact ⟨fun h => absurd h (by decide), fun _ => ⟨fun h => absurd h (by decide), fun _ => ⟨fun h => absurd h (by decide), fun _ => ⟨fun _ => ⟨fun _ => hQ, fun h => absurd rfl h⟩, fun h => absurd rfl h⟩⟩⟩⟩
    · simp only [h1, h4, decide_true, decide_false, Bool.false_or, Bool.and_false, Bool.false_and, i40, i41, Bool.false_eq_true, if_true, if_false, kl_i, kl_a, kl_s, kl_u, kl_l, okS_nil, okS_cons, cat_i, cat_a, cat_s, cat_l, Nat.reduceAdd, Nat.reduceLeDiff, Nat.reduceSub, Nat.sub_zero, Nat.sub_self, Nat.zero_add, Nat.le_refl, Nat.zero_le, List.length_cons, List.length_nil, true_and, and_true, true_or, or_true, eq_self, forall_const, true_implies, not_true_eq_false, not_false_eq_true, false_implies, implies_true, false_and, and_false, false_or, or_false] at hQ ⊢
      exact hQ
  simp only [h0, h1, h2, h3, decide_false, Bool.false_or, Bool.false_and, Bool.false_eq_true, if_true, if_false, kl_i, kl_a, kl_s, kl_u, kl_l, okS_nil, okS_cons, cat_i, cat_a, cat_s, cat_l, Nat.reduceAdd, Nat.reduceLeDiff, Nat.reduceSub, Nat.sub_zero, Nat.sub_self, Nat.zero_add, Nat.le_refl, Nat.zero_le, List.length_cons, List.length_nil, true_and, and_true, true_or, or_true, eq_self, forall_const, true_implies, not_true_eq_false, not_false_eq_true, false_implies, implies_true, false_and, and_false, false_or, or_false] at hQ ⊢
  exact hQ
def z3 (q : Nat → Int32) (v : Nat) : Nat → Int32 := fun k => if 33 ≤ k ∧ k < 33 + v then 0 else q k
def gosM (N : Nat) : Nat → (Nat → Int32) → Nat → Int32
  | 0, q => q
  | c + 1, q => gosM N c (goQ N q 0)
theorem gosM_2 (N : Nat) (h7 : N ≤ 7) : ∀ (c : Nat) (q : Nat → Int32), gosM N c q 2 = q 2 := by
  intro c
  induction c with
  | zero => intro q; rfl
  | succ c ih => intro q; rw [gosM, ih, goQ_2 N h7]
theorem l_lk1 {K : Cx} {d : Nat} {σ : Sg} {m : Mm} {l : Ml} {N : Nat} {n : Int32} {q : Nat → Int32} {Q : Rt} {e3 : Value} (hm : wfM σ) (h7 : N ≤ 7) (hN : m 204 2 = nI N) : ∀ (k v : Nat), v + k = N → (∀ e2, WX (tX6_lacks K (d + 3)) Q (28, [.ref 199, .int n, e2, e3], [], (0, 0), σ, setR m 210 (z3 q N), l)) → WX (tX6_lacks K (d + 3)) Q (2, [.ref 199, .int n, .int (nI v), e3], [], (0, 0), σ, setR m 210 (z3 q v), l) := by
  obtain ⟨M0, R0, R1, R2, R4, R8, R10, R11, R12, R14, R20, R21, R22, A200, L200, A201, L201, A202, L202, A203, L203, A204, L204, A205, L205, A206, L206, A207, L207, A208, L208, A209, L209, A210, L210, A211, L211⟩ := hm
  have w1 : ∀ f, setR m 210 f 204 = m 204 := fun f => setR_n _ _ (by decide)
  intro k
  induction k with
  | zero =>
    intro v hv hQ
    obtain rfl : v = N := by omega
    have c1 : (nI v < nI v) = False := by rw [ltN (by omega) (by omega)]; exact eq_false (by omega)
    rw [xX6_lacks_2]
    simp only [xX6_lacks_0, xX6_lacks_1, xX6_lacks_3, xX6_lacks_4, xX6_lacks_7, xX6_lacks_8, xX6_lacks_9, xX6_lacks_12, xX6_lacks_13, xX6_lacks_16, xX6_lacks_18, xX6_lacks_19, xX6_lacks_20, xX6_lacks_21, xX6_lacks_22, xX6_lacks_25, xX6_lacks_29, xX6_lacks_30, xX6_lacks_31, xX6_lacks_32, xX6_lacks_35, xX6_lacks_36, xX6_lacks_39, xX6_lacks_40, xX6_lacks_43, xX6_lacks_44, xX6_lacks_47, xX6_lacks_50, xX6_lacks_51, xX6_lacks_52, xX6_lacks_53, xX6_lacks_54, xX6_lacks_55, xX6_lacks_56, xX6_lacks_59, xX6_lacks_60, xX6_lacks_61, xX6_lacks_64, xX6_lacks_65, xX6_lacks_66, xX6_lacks_69, xX6_lacks_71, xX6_lacks_72, xX6_lacks_73, xX6_lacks_74, xX6_lacks_75, xX6_lacks_76, xX6_lacks_79, xX6_lacks_82, xX6_lacks_83, Bool.false_eq_true, if_true, if_false, kl_i, kl_a, kl_s, kl_u, kl_l, okS_nil, okS_cons, cat_i, cat_a, cat_s, cat_l, Nat.reduceAdd, Nat.reduceLeDiff, Nat.reduceSub, Nat.sub_zero, Nat.sub_self, Nat.zero_add, Nat.le_refl, Nat.zero_le, List.length_cons, List.length_nil, true_and, and_true, true_or, or_true, eq_self, forall_const, true_implies, not_true_eq_false, not_false_eq_true, false_implies, implies_true, false_and, and_false, false_or, or_false, c1, M0, R8, A204, L204, k5, k12, k19, k26, k33, cl0, cl1, cl2, cl3, cl4, vi0, vi1, vi2, vi3, vi4, hN, w1]
    exact hQ _
  | succ k ih =>
    intro v hv hQ
    have c1 : (nI v < nI N) = True := by rw [ltN (by omega) (by omega)]; exact eq_true (by omega)
    have c33 := clN (v := 33 + v) (by omega)
    have n33 := inN (v := 33 + v) (n := 40) (by omega) (by omega)
    rw [xX6_lacks_2]
    simp only [xX6_lacks_0, xX6_lacks_1, xX6_lacks_3, xX6_lacks_4, xX6_lacks_7, xX6_lacks_8, xX6_lacks_9, xX6_lacks_12, xX6_lacks_13, xX6_lacks_16, xX6_lacks_18, xX6_lacks_19, xX6_lacks_20, xX6_lacks_21, xX6_lacks_22, xX6_lacks_25, xX6_lacks_29, xX6_lacks_30, xX6_lacks_31, xX6_lacks_32, xX6_lacks_35, xX6_lacks_36, xX6_lacks_39, xX6_lacks_40, xX6_lacks_43, xX6_lacks_44, xX6_lacks_47, xX6_lacks_50, xX6_lacks_51, xX6_lacks_52, xX6_lacks_53, xX6_lacks_54, xX6_lacks_55, xX6_lacks_56, xX6_lacks_59, xX6_lacks_60, xX6_lacks_61, xX6_lacks_64, xX6_lacks_65, xX6_lacks_66, xX6_lacks_69, xX6_lacks_71, xX6_lacks_72, xX6_lacks_73, xX6_lacks_74, xX6_lacks_75, xX6_lacks_76, xX6_lacks_79, xX6_lacks_82, xX6_lacks_83, Bool.false_eq_true, if_true, if_false, kl_i, kl_a, kl_s, kl_u, kl_l, okS_nil, okS_cons, cat_i, cat_a, cat_s, cat_l, Nat.reduceAdd, Nat.reduceLeDiff, Nat.reduceSub, Nat.sub_zero, Nat.sub_self, Nat.zero_add, Nat.le_refl, Nat.zero_le, List.length_cons, List.length_nil, true_and, and_true, true_or, or_true, eq_self, forall_const, true_implies, not_true_eq_false, not_false_eq_true, false_implies, implies_true, false_and, and_false, false_or, or_false, c1, M0, R8, R21, A204, L204, A210, L210, k5, k12, k19, k26, k33, cl0, cl1, cl2, cl3, cl4, vi0, vi1, vi2, vi3, vi4, hN, w1, nI1, c33, n33, upM_setR, setR_setR, setR_s]
    have e : upd (z3 q v) (33 + v) 0 = z3 q (v + 1) := by
      funext k
      simp only [upd, z3]
      by_cases h : k = 33 + v
      · subst h; rw [if_pos rfl, if_pos (by omega)]
      · rw [if_neg h]
        by_cases h2 : 33 ≤ k ∧ k < 33 + v
        · rw [if_pos h2, if_pos (by omega)]
        · rw [if_neg h2, if_neg (by omega)]
    rw [e]
    exact ih (v + 1) (by omega) hQ
theorem l_lk2 {K : Cx} {d : Nat} {σ : Sg} {m : Mm} {l : Ml} {N n : Nat} {Q : Rt} (hm : wfM σ) (h7 : N ≤ 7) (hn : n ≤ 100) : ∀ (k v : Nat) (q : Nat → Int32) (e3 : Value), q 2 = nI N → v + k = n → (∀ e2 e3, WX (tX6_lacks K (d + 3)) Q (50, [.ref 199, .int (nI n), e2, e3], [], (0, 0), σ, setR m 210 (gosM N k q), l)) → WX (tX6_lacks K (d + 3)) Q (30, [.ref 199, .int (nI n), .int (nI v), e3], [], (0, 0), σ, setR m 210 q, l) := by
  obtain ⟨M0, R0, R1, R2, R4, R8, R10, R11, R12, R14, R20, R21, R22, A200, L200, A201, L201, A202, L202, A203, L203, A204, L204, A205, L205, A206, L206, A207, L207, A208, L208, A209, L209, A210, L210, A211, L211⟩ := hm
  intro k
  induction k with
  | zero =>
    intro v q e3 hN hv hQ
    have c1 : (nI v < nI n) = False := by rw [ltN (by omega) (by omega)]; exact eq_false (by omega)
    rw [xX6_lacks_30]
    simp only [xX6_lacks_0, xX6_lacks_1, xX6_lacks_2, xX6_lacks_3, xX6_lacks_4, xX6_lacks_7, xX6_lacks_8, xX6_lacks_9, xX6_lacks_12, xX6_lacks_13, xX6_lacks_16, xX6_lacks_18, xX6_lacks_19, xX6_lacks_20, xX6_lacks_21, xX6_lacks_22, xX6_lacks_25, xX6_lacks_28, xX6_lacks_29, xX6_lacks_31, xX6_lacks_32, xX6_lacks_35, xX6_lacks_36, xX6_lacks_39, xX6_lacks_40, xX6_lacks_43, xX6_lacks_44, xX6_lacks_47, xX6_lacks_51, xX6_lacks_52, xX6_lacks_53, xX6_lacks_54, xX6_lacks_55, xX6_lacks_56, xX6_lacks_59, xX6_lacks_60, xX6_lacks_61, xX6_lacks_64, xX6_lacks_65, xX6_lacks_66, xX6_lacks_69, xX6_lacks_71, xX6_lacks_72, xX6_lacks_73, xX6_lacks_74, xX6_lacks_75, xX6_lacks_76, xX6_lacks_79, xX6_lacks_82, xX6_lacks_83, Bool.false_eq_true, if_true, if_false, kl_i, kl_a, kl_s, kl_u, kl_l, okS_nil, okS_cons, cat_i, cat_a, cat_s, cat_l, Nat.reduceAdd, Nat.reduceLeDiff, Nat.reduceSub, Nat.sub_zero, Nat.sub_self, Nat.zero_add, Nat.le_refl, Nat.zero_le, List.length_cons, List.length_nil, true_and, and_true, true_or, or_true, eq_self, forall_const, true_implies, not_true_eq_false, not_false_eq_true, false_implies, implies_true, false_and, and_false, false_or, or_false, c1]
    exact hQ _ _
  | succ k ih =>
    intro v q e3 hN hv hQ
    have c1 : (nI v < nI n) = True := by rw [ltN (by omega) (by omega)]; exact eq_true (by omega)
    rw [xX6_lacks_30]
    simp only [xX6_lacks_0, xX6_lacks_1, xX6_lacks_2, xX6_lacks_3, xX6_lacks_4, xX6_lacks_7, xX6_lacks_8, xX6_lacks_9, xX6_lacks_12, xX6_lacks_13, xX6_lacks_16, xX6_lacks_18, xX6_lacks_19, xX6_lacks_20, xX6_lacks_21, xX6_lacks_22, xX6_lacks_25, xX6_lacks_28, xX6_lacks_29, xX6_lacks_31, xX6_lacks_32, xX6_lacks_35, xX6_lacks_36, xX6_lacks_39, xX6_lacks_40, xX6_lacks_43, xX6_lacks_44, xX6_lacks_47, xX6_lacks_51, xX6_lacks_52, xX6_lacks_53, xX6_lacks_54, xX6_lacks_55, xX6_lacks_56, xX6_lacks_59, xX6_lacks_60, xX6_lacks_61, xX6_lacks_64, xX6_lacks_65, xX6_lacks_66, xX6_lacks_69, xX6_lacks_71, xX6_lacks_72, xX6_lacks_73, xX6_lacks_74, xX6_lacks_75, xX6_lacks_76, xX6_lacks_79, xX6_lacks_82, xX6_lacks_83, Bool.false_eq_true, if_true, if_false, kl_i, kl_a, kl_s, kl_u, kl_l, okS_nil, okS_cons, cat_i, cat_a, cat_s, cat_l, Nat.reduceAdd, Nat.reduceLeDiff, Nat.reduceSub, Nat.sub_zero, Nat.sub_self, Nat.zero_add, Nat.le_refl, Nat.zero_le, List.length_cons, List.length_nil, true_and, and_true, true_or, or_true, eq_self, forall_const, true_implies, not_true_eq_false, not_false_eq_true, false_implies, implies_true, false_and, and_false, false_or, or_false, c1, M0, R21]
    refine t_mGoes ⟨A210, L210⟩ hN h7 ?_
    simp only [xX6_lacks_0, xX6_lacks_1, xX6_lacks_2, xX6_lacks_3, xX6_lacks_4, xX6_lacks_7, xX6_lacks_8, xX6_lacks_9, xX6_lacks_12, xX6_lacks_13, xX6_lacks_16, xX6_lacks_18, xX6_lacks_19, xX6_lacks_20, xX6_lacks_21, xX6_lacks_22, xX6_lacks_25, xX6_lacks_28, xX6_lacks_29, xX6_lacks_31, xX6_lacks_32, xX6_lacks_35, xX6_lacks_36, xX6_lacks_39, xX6_lacks_40, xX6_lacks_43, xX6_lacks_44, xX6_lacks_47, xX6_lacks_51, xX6_lacks_52, xX6_lacks_53, xX6_lacks_54, xX6_lacks_55, xX6_lacks_56, xX6_lacks_59, xX6_lacks_60, xX6_lacks_61, xX6_lacks_64, xX6_lacks_65, xX6_lacks_66, xX6_lacks_69, xX6_lacks_71, xX6_lacks_72, xX6_lacks_73, xX6_lacks_74, xX6_lacks_75, xX6_lacks_76, xX6_lacks_79, xX6_lacks_82, xX6_lacks_83, Bool.false_eq_true, if_true, if_false, kl_i, kl_a, kl_s, kl_u, kl_l, okS_nil, okS_cons, cat_i, cat_a, cat_s, cat_l, Nat.reduceAdd, Nat.reduceLeDiff, Nat.reduceSub, Nat.sub_zero, Nat.sub_self, Nat.zero_add, Nat.le_refl, Nat.zero_le, List.length_cons, List.length_nil, true_and, and_true, true_or, or_true, eq_self, forall_const, true_implies, not_true_eq_false, not_false_eq_true, false_implies, implies_true, false_and, and_false, false_or, or_false, nI1]
    exact ih (v + 1) _ _ (by rw [goQ_2 N h7]; exact hN) (by omega) hQ
theorem l_lk3 {K : Cx} {d : Nat} {σ : Sg} {m : Mm} {l : Ml} {N : Nat} {n : Int32} {Q : Rt} (hm : wfM σ) (h7 : N ≤ 7) (hN : m 204 2 = nI N) : ∀ (k v : Nat) (s : Int32), v + k = N → Q (smF (fun v => m 210 (33 + v)) v k s) σ m l → WX (tX6_lacks K (d + 3)) Q (54, [.ref 199, .int n, .int s, .int (nI v)], [], (0, 0), σ, m, l) := by
  obtain ⟨M0, R0, R1, R2, R4, R8, R10, R11, R12, R14, R20, R21, R22, A200, L200, A201, L201, A202, L202, A203, L203, A204, L204, A205, L205, A206, L206, A207, L207, A208, L208, A209, L209, A210, L210, A211, L211⟩ := hm
  intro k
  induction k with
  | zero =>
    intro v s hv hQ
    have c1 : (nI v < nI N) = False := by rw [ltN (by omega) (by omega)]; exact eq_false (by omega)
    rw [xX6_lacks_54]
    simp only [xX6_lacks_0, xX6_lacks_1, xX6_lacks_2, xX6_lacks_3, xX6_lacks_4, xX6_lacks_7, xX6_lacks_8, xX6_lacks_9, xX6_lacks_12, xX6_lacks_13, xX6_lacks_16, xX6_lacks_18, xX6_lacks_19, xX6_lacks_20, xX6_lacks_21, xX6_lacks_22, xX6_lacks_25, xX6_lacks_28, xX6_lacks_29, xX6_lacks_30, xX6_lacks_31, xX6_lacks_32, xX6_lacks_35, xX6_lacks_36, xX6_lacks_39, xX6_lacks_40, xX6_lacks_43, xX6_lacks_44, xX6_lacks_47, xX6_lacks_50, xX6_lacks_51, xX6_lacks_52, xX6_lacks_53, xX6_lacks_55, xX6_lacks_56, xX6_lacks_59, xX6_lacks_60, xX6_lacks_61, xX6_lacks_64, xX6_lacks_65, xX6_lacks_66, xX6_lacks_69, xX6_lacks_71, xX6_lacks_72, xX6_lacks_73, xX6_lacks_74, xX6_lacks_75, xX6_lacks_76, xX6_lacks_79, xX6_lacks_82, xX6_lacks_83, Bool.false_eq_true, if_true, if_false, kl_i, kl_a, kl_s, kl_u, kl_l, okS_nil, okS_cons, cat_i, cat_a, cat_s, cat_l, Nat.reduceAdd, Nat.reduceLeDiff, Nat.reduceSub, Nat.sub_zero, Nat.sub_self, Nat.zero_add, Nat.le_refl, Nat.zero_le, List.length_cons, List.length_nil, true_and, and_true, true_or, or_true, eq_self, forall_const, true_implies, not_true_eq_false, not_false_eq_true, false_implies, implies_true, false_and, and_false, false_or, or_false, c1, M0, R8, A204, L204, k5, k12, k19, k26, k33, cl0, cl1, cl2, cl3, cl4, vi0, vi1, vi2, vi3, vi4, hN]
    exact hQ
  | succ k ih =>
    intro v s hv hQ
    have c1 : (nI v < nI N) = True := by rw [ltN (by omega) (by omega)]; exact eq_true (by omega)
    have c33 := clN (v := 33 + v) (by omega)
    have n33 := inN (v := 33 + v) (n := 40) (by omega) (by omega)
    rw [xX6_lacks_54]
    simp only [xX6_lacks_0, xX6_lacks_1, xX6_lacks_2, xX6_lacks_3, xX6_lacks_4, xX6_lacks_7, xX6_lacks_8, xX6_lacks_9, xX6_lacks_12, xX6_lacks_13, xX6_lacks_16, xX6_lacks_18, xX6_lacks_19, xX6_lacks_20, xX6_lacks_21, xX6_lacks_22, xX6_lacks_25, xX6_lacks_28, xX6_lacks_29, xX6_lacks_30, xX6_lacks_31, xX6_lacks_32, xX6_lacks_35, xX6_lacks_36, xX6_lacks_39, xX6_lacks_40, xX6_lacks_43, xX6_lacks_44, xX6_lacks_47, xX6_lacks_50, xX6_lacks_51, xX6_lacks_52, xX6_lacks_53, xX6_lacks_55, xX6_lacks_56, xX6_lacks_59, xX6_lacks_60, xX6_lacks_61, xX6_lacks_64, xX6_lacks_65, xX6_lacks_66, xX6_lacks_69, xX6_lacks_71, xX6_lacks_72, xX6_lacks_73, xX6_lacks_74, xX6_lacks_75, xX6_lacks_76, xX6_lacks_79, xX6_lacks_82, xX6_lacks_83, Bool.false_eq_true, if_true, if_false, kl_i, kl_a, kl_s, kl_u, kl_l, okS_nil, okS_cons, cat_i, cat_a, cat_s, cat_l, Nat.reduceAdd, Nat.reduceLeDiff, Nat.reduceSub, Nat.sub_zero, Nat.sub_self, Nat.zero_add, Nat.le_refl, Nat.zero_le, List.length_cons, List.length_nil, true_and, and_true, true_or, or_true, eq_self, forall_const, true_implies, not_true_eq_false, not_false_eq_true, false_implies, implies_true, false_and, and_false, false_or, or_false, c1, M0, R8, R21, A204, L204, A210, L210, k5, k12, k19, k26, k33, cl0, cl1, cl2, cl3, cl4, vi0, vi1, vi2, vi3, vi4, hN, nI1, c33, n33]
    exact ih (v + 1) _ (by omega) hQ
theorem t_mLacks {K : Cx} {d : Nat} {σ : Sg} {m : Mm} {l : Ml} {N n : Nat} {q : Nat → Int32} {Q : Rt} (hm : wfM σ) (h7 : N ≤ 7) (hn : n ≤ 100) (hN : m 204 2 = nI N) (hq : q 2 = nI N) (hQ : Q (smF (fun v => gosM N n (z3 q N) (33 + v)) 0 N 0) σ (setR m 210 (gosM N n (z3 q N))) l) : CT K (d + 4) YX6_lacks [.ref 199, .int (nI n)] σ (setR m 210 q) l Q := by
  refine kX6_lacks ?_
  simp only [xX6_lacks_0, xX6_lacks_1, Bool.false_eq_true, if_true, if_false, kl_i, kl_a, kl_s, kl_u, kl_l, okS_nil, okS_cons, cat_i, cat_a, cat_s, cat_l, Nat.reduceAdd, Nat.reduceLeDiff, Nat.reduceSub, Nat.sub_zero, Nat.sub_self, Nat.zero_add, Nat.le_refl, Nat.zero_le, List.length_cons, List.length_nil, true_and, and_true, true_or, or_true, eq_self, forall_const, true_implies, not_true_eq_false, not_false_eq_true, false_implies, implies_true, false_and, and_false, false_or, or_false]
  have key := l_lk1 (K := K) (d := d) (m := m) (l := l) (n := nI n) (q := q) (Q := Q) (e3 := .float 0) hm h7 hN N 0 (by omega)
  have e : z3 q 0 = q := by
    funext k
    simp only [z3]
    rw [if_neg (by omega)]
  rw [e] at key
  refine key (fun e2 => ?_)
  simp only [xX6_lacks_28, xX6_lacks_29, Bool.false_eq_true, if_true, if_false, kl_i, kl_a, kl_s, kl_u, kl_l, okS_nil, okS_cons, cat_i, cat_a, cat_s, cat_l, Nat.reduceAdd, Nat.reduceLeDiff, Nat.reduceSub, Nat.sub_zero, Nat.sub_self, Nat.zero_add, Nat.le_refl, Nat.zero_le, List.length_cons, List.length_nil, true_and, and_true, true_or, or_true, eq_self, forall_const, true_implies, not_true_eq_false, not_false_eq_true, false_implies, implies_true, false_and, and_false, false_or, or_false]
  have e2' : z3 q N 2 = nI N := by
    simp only [z3]
    rw [if_neg (by omega)]
    exact hq
  refine l_lk2 hm h7 hn n 0 (z3 q N) _ e2' (by omega) (fun e2 e3 => ?_)
  simp only [xX6_lacks_50, xX6_lacks_51, xX6_lacks_52, xX6_lacks_53, Bool.false_eq_true, if_true, if_false, kl_i, kl_a, kl_s, kl_u, kl_l, okS_nil, okS_cons, cat_i, cat_a, cat_s, cat_l, Nat.reduceAdd, Nat.reduceLeDiff, Nat.reduceSub, Nat.sub_zero, Nat.sub_self, Nat.zero_add, Nat.le_refl, Nat.zero_le, List.length_cons, List.length_nil, true_and, and_true, true_or, or_true, eq_self, forall_const, true_implies, not_true_eq_false, not_false_eq_true, false_implies, implies_true, false_and, and_false, false_or, or_false]
  refine l_lk3 hm h7 (by rw [setR_n _ _ (by decide)]; exact hN) N 0 0 (by omega) ?_
  simp only [setR_s]
  exact hQ
/-- the acts moved up by one -/
def shA (f : Nat → Int32) (v : Nat) : Nat → Int32 := fun k => if k < v then f (k + 40) else f k
theorem l_rem {K : Cx} {d : Nat} {σ : Sg} {m : Mm} {l : Ml} {Q : Rt} (hm : wfM σ) : ∀ (k v : Nat), v + k = 920 → (∀ e1, WX (tX6_remember K (d + 1)) Q (39, [.ref 199, e1], [], (0, 0), σ, setR m 205 (shA (m 205) 920), l)) → WX (tX6_remember K (d + 1)) Q (11, [.ref 199, .int (nI v)], [], (0, 0), σ, setR m 205 (shA (m 205) v), l) := by
  obtain ⟨M0, R0, R1, R2, R4, R8, R10, R11, R12, R14, R20, R21, R22, A200, L200, A201, L201, A202, L202, A203, L203, A204, L204, A205, L205, A206, L206, A207, L207, A208, L208, A209, L209, A210, L210, A211, L211⟩ := hm
  intro k
  induction k with
  | zero =>
    intro v hv hQ
    obtain rfl : v = 920 := by omega
    have c1 : (nI 920 < 920) = False := eq_false (by decide)
    rw [xX6_remember_11]
    simp only [xX6_remember_0, xX6_remember_1, xX6_remember_4, xX6_remember_6, xX6_remember_9, xX6_remember_10, xX6_remember_12, xX6_remember_15, xX6_remember_18, xX6_remember_19, xX6_remember_22, xX6_remember_23, xX6_remember_24, xX6_remember_27, xX6_remember_28, xX6_remember_30, xX6_remember_31, xX6_remember_32, xX6_remember_33, xX6_remember_36, xX6_remember_40, xX6_remember_41, xX6_remember_44, xX6_remember_45, xX6_remember_46, xX6_remember_49, xX6_remember_50, xX6_remember_53, xX6_remember_54, xX6_remember_55, xX6_remember_58, xX6_remember_60, xX6_remember_61, xX6_remember_64, xX6_remember_65, xX6_remember_68, xX6_remember_69, xX6_remember_70, xX6_remember_73, xX6_remember_74, xX6_remember_75, xX6_remember_78, Bool.false_eq_true, if_true, if_false, kl_i, kl_a, kl_s, kl_u, kl_l, okS_nil, okS_cons, cat_i, cat_a, cat_s, cat_l, Nat.reduceAdd, Nat.reduceLeDiff, Nat.reduceSub, Nat.sub_zero, Nat.sub_self, Nat.zero_add, Nat.le_refl, Nat.zero_le, List.length_cons, List.length_nil, true_and, and_true, true_or, or_true, eq_self, forall_const, true_implies, not_true_eq_false, not_false_eq_true, false_implies, implies_true, false_and, and_false, false_or, or_false, c1]
    exact hQ _
  | succ k ih =>
    intro v hv hQ
    have c1 : (nI v < 920) = True := (ltN (a := v) (b := 920) (by omega) (by omega)).trans (eq_true (by omega))
    have e40 : nI v + 40 = nI (v + 40) := nI_add v 40
    have c0 := clN (v := v) (by omega)
    have n0 := inN (v := v) (n := 960) (by omega) (by omega)
    have c4 := clN (v := v + 40) (by omega)
    have n4 := inN (v := v + 40) (n := 960) (by omega) (by omega)
    have es : shA (m 205) v (v + 40) = m 205 (v + 40) := by
      simp only [shA]
      rw [if_neg (by omega)]
    rw [xX6_remember_11]
    simp only [xX6_remember_0, xX6_remember_1, xX6_remember_4, xX6_remember_6, xX6_remember_9, xX6_remember_10, xX6_remember_12, xX6_remember_15, xX6_remember_18, xX6_remember_19, xX6_remember_22, xX6_remember_23, xX6_remember_24, xX6_remember_27, xX6_remember_28, xX6_remember_30, xX6_remember_31, xX6_remember_32, xX6_remember_33, xX6_remember_36, xX6_remember_40, xX6_remember_41, xX6_remember_44, xX6_remember_45, xX6_remember_46, xX6_remember_49, xX6_remember_50, xX6_remember_53, xX6_remember_54, xX6_remember_55, xX6_remember_58, xX6_remember_60, xX6_remember_61, xX6_remember_64, xX6_remember_65, xX6_remember_68, xX6_remember_69, xX6_remember_70, xX6_remember_73, xX6_remember_74, xX6_remember_75, xX6_remember_78, Bool.false_eq_true, if_true, if_false, kl_i, kl_a, kl_s, kl_u, kl_l, okS_nil, okS_cons, cat_i, cat_a, cat_s, cat_l, Nat.reduceAdd, Nat.reduceLeDiff, Nat.reduceSub, Nat.sub_zero, Nat.sub_self, Nat.zero_add, Nat.le_refl, Nat.zero_le, List.length_cons, List.length_nil, true_and, and_true, true_or, or_true, eq_self, forall_const, true_implies, not_true_eq_false, not_false_eq_true, false_implies, implies_true, false_and, and_false, false_or, or_false, c1, M0, R10, A205, L205, e40, c0, n0, c4, n4, upM_setR, setR_setR, setR_s, es, nI1]
    have e : upd (shA (m 205) v) v (m 205 (v + 40)) = shA (m 205) (v + 1) := by
      funext k
      simp only [upd, shA]
      by_cases h : k = v
      · subst h; rw [if_pos rfl, if_pos (by omega)]
      · rw [if_neg h]
        by_cases h2 : k < v
        · rw [if_pos h2, if_pos (by omega)]
        · rw [if_neg h2, if_neg (by omega)]
    rw [e]
    exact ih (v + 1) (by omega) hQ
def remQ (m : Mm) (A : Nat) : Mm :=
  if A = 24 then upM (setR m 205 (va_cpy (m 204) (shA (m 205) 920) 0 920 40)) 199 9 24
  else upM (setR m 205 (va_cpy (m 204) (m 205) 0 (40 * A) 40)) 199 9 (nI (A + 1))
theorem t_remember {K : Cx} {d : Nat} {σ : Sg} {m : Mm} {l : Ml} {A : Nat} {Q : Rt} (hm : wfM σ) (hA : m 199 9 = nI A) (h24 : A ≤ 24) (hQ : Q 0 σ (remQ m A) l) : CT K (d + 2) YX6_remember [.ref 199] σ m l Q := by
  have hm0 := hm
  obtain ⟨M0, R0, R1, R2, R4, R8, R10, R11, R12, R14, R20, R21, R22, A200, L200, A201, L201, A202, L202, A203, L203, A204, L204, A205, L205, A206, L206, A207, L207, A208, L208, A209, L209, A210, L210, A211, L211⟩ := hm
  refine kX6_remember ?_
  unfold remQ at hQ
  by_cases h : A = 24
  · subst h
    rw [if_pos rfl] at hQ
    have e24 : (nI 24 = 24) = True := eq_true rfl
    simp only [xX6_remember_0, xX6_remember_1, xX6_remember_4, xX6_remember_6, xX6_remember_9, xX6_remember_10, Bool.false_eq_true, if_true, if_false, kl_i, kl_a, kl_s, kl_u, kl_l, okS_nil, okS_cons, cat_i, cat_a, cat_s, cat_l, Nat.reduceAdd, Nat.reduceLeDiff, Nat.reduceSub, Nat.sub_zero, Nat.sub_self, Nat.zero_add, Nat.le_refl, Nat.zero_le, List.length_cons, List.length_nil, true_and, and_true, true_or, or_true, eq_self, forall_const, true_implies, not_true_eq_false, not_false_eq_true, false_implies, implies_true, false_and, and_false, false_or, or_false, M0, hA, e24]
    have key := l_rem (K := K) (d := d) (m := m) (l := l) (Q := Q) hm0 920 0 (by omega)
    have e : setR m 205 (shA (m 205) 0) = m := by
      have : shA (m 205) 0 = m 205 := by
        funext k
        simp only [shA]
        rw [if_neg (by omega)]
      rw [this]
      exact setR_id m 205
    rw [e] at key
    refine key (fun e1 => ?_)
    have w1 : setR m 205 (shA (m 205) 920) 199 = m 199 := setR_n _ _ (by decide)
    have w4 : ∀ x, upM (setR m 205 (shA (m 205) 920)) 199 9 x 204 = m 204 := fun x => (upM_n _ _ _ (by decide)).trans (setR_n _ _ (by decide))
    have w5 : ∀ x, upM (setR m 205 (shA (m 205) 920)) 199 9 x 205 = shA (m 205) 920 := fun x => (upM_n _ _ _ (by decide)).trans (setR_s _ _ _)
    have e3 : (nI 24 : Int32) - 1 = nI 23 := rfl
    have e4 : (40 : Int32) * nI 23 = nI 920 := by decide
    simp only [xX6_remember_0, xX6_remember_1, xX6_remember_4, xX6_remember_6, xX6_remember_9, xX6_remember_10, xX6_remember_12, xX6_remember_15, xX6_remember_18, xX6_remember_19, xX6_remember_22, xX6_remember_23, xX6_remember_24, xX6_remember_27, xX6_remember_28, xX6_remember_30, xX6_remember_31, xX6_remember_32, xX6_remember_33, xX6_remember_36, xX6_remember_39, xX6_remember_40, xX6_remember_41, xX6_remember_44, xX6_remember_45, xX6_remember_46, xX6_remember_49, xX6_remember_50, xX6_remember_53, xX6_remember_54, xX6_remember_55, xX6_remember_58, xX6_remember_60, xX6_remember_61, xX6_remember_64, xX6_remember_65, xX6_remember_68, xX6_remember_69, xX6_remember_70, xX6_remember_73, xX6_remember_74, xX6_remember_75, xX6_remember_78, Bool.false_eq_true, if_true, if_false, kl_i, kl_a, kl_s, kl_u, kl_l, okS_nil, okS_cons, cat_i, cat_a, cat_s, cat_l, Nat.reduceAdd, Nat.reduceLeDiff, Nat.reduceSub, Nat.sub_zero, Nat.sub_self, Nat.zero_add, Nat.le_refl, Nat.zero_le, List.length_cons, List.length_nil, true_and, and_true, true_or, or_true, eq_self, forall_const, true_implies, not_true_eq_false, not_false_eq_true, false_implies, implies_true, false_and, and_false, false_or, or_false, M0, R8, R10, w1, hA, e3, upM_s, upd, e4]
    refine t_mCopies (i := 0) (j := 920) A204 A205 L204 L205 (by omega) (by omega) (by omega) (by omega) (by decide) ?_
    simp only [w4, w5]
    simp only [xX6_remember_0, xX6_remember_1, xX6_remember_4, xX6_remember_6, xX6_remember_9, xX6_remember_10, xX6_remember_12, xX6_remember_15, xX6_remember_18, xX6_remember_19, xX6_remember_22, xX6_remember_23, xX6_remember_24, xX6_remember_27, xX6_remember_28, xX6_remember_30, xX6_remember_31, xX6_remember_32, xX6_remember_33, xX6_remember_36, xX6_remember_39, xX6_remember_40, xX6_remember_41, xX6_remember_44, xX6_remember_45, xX6_remember_46, xX6_remember_49, xX6_remember_50, xX6_remember_53, xX6_remember_54, xX6_remember_55, xX6_remember_58, xX6_remember_60, xX6_remember_61, xX6_remember_64, xX6_remember_65, xX6_remember_68, xX6_remember_69, xX6_remember_70, xX6_remember_73, xX6_remember_74, xX6_remember_75, xX6_remember_78, Bool.false_eq_true, if_true, if_false, kl_i, kl_a, kl_s, kl_u, kl_l, okS_nil, okS_cons, cat_i, cat_a, cat_s, cat_l, Nat.reduceAdd, Nat.reduceLeDiff, Nat.reduceSub, Nat.sub_zero, Nat.sub_self, Nat.zero_add, Nat.le_refl, Nat.zero_le, List.length_cons, List.length_nil, true_and, and_true, true_or, or_true, eq_self, forall_const, true_implies, not_true_eq_false, not_false_eq_true, false_implies, implies_true, false_and, and_false, false_or, or_false, M0]
    have e5 : upM (setR (upM (setR m 205 (shA (m 205) 920)) 199 9 (nI 23)) 205 (va_cpy (m 204) (shA (m 205) 920) 0 920 40)) 199 9 (setR (upM (setR m 205 (shA (m 205) 920)) 199 9 (nI 23)) 205 (va_cpy (m 204) (shA (m 205) 920) 0 920 40) 199 9 + 1) = upM (setR m 205 (va_cpy (m 204) (shA (m 205) 920) 0 920 40)) 199 9 24 := by
      rw [setR_n _ _ (by decide : (199 : Nat) ≠ 205), upM_s, upd_s]
      funext b k
      simp only [upM, setR, upd]
      by_cases h1 : b = 199
      · subst h1
        by_cases h2 : k = 9
        · subst h2; rfl
        · simp [h2, upd]
      · by_cases h2 : b = 205
        · subst h2; simp
        · simp only [h1, h2, if_false]
    rw [e5]
    exact hQ
  · rw [if_neg h] at hQ
    have e24 : (nI A = 24) = False := by
      have := eqN (a := A) (b := 24) (by omega) (by omega)
      exact this.trans (eq_false h)
    have e4 : (40 : Int32) * nI A = nI (40 * A) := pk_mul 40 A
    simp only [xX6_remember_0, xX6_remember_1, xX6_remember_4, xX6_remember_6, xX6_remember_9, xX6_remember_10, xX6_remember_12, xX6_remember_15, xX6_remember_18, xX6_remember_19, xX6_remember_22, xX6_remember_23, xX6_remember_24, xX6_remember_27, xX6_remember_28, xX6_remember_30, xX6_remember_31, xX6_remember_32, xX6_remember_33, xX6_remember_36, xX6_remember_40, xX6_remember_41, xX6_remember_44, xX6_remember_45, xX6_remember_46, xX6_remember_49, xX6_remember_50, xX6_remember_53, xX6_remember_54, xX6_remember_55, xX6_remember_58, xX6_remember_60, xX6_remember_61, xX6_remember_64, xX6_remember_65, xX6_remember_68, xX6_remember_69, xX6_remember_70, xX6_remember_73, xX6_remember_74, xX6_remember_75, xX6_remember_78, Bool.false_eq_true, if_true, if_false, kl_i, kl_a, kl_s, kl_u, kl_l, okS_nil, okS_cons, cat_i, cat_a, cat_s, cat_l, Nat.reduceAdd, Nat.reduceLeDiff, Nat.reduceSub, Nat.sub_zero, Nat.sub_self, Nat.zero_add, Nat.le_refl, Nat.zero_le, List.length_cons, List.length_nil, true_and, and_true, true_or, or_true, eq_self, forall_const, true_implies, not_true_eq_false, not_false_eq_true, false_implies, implies_true, false_and, and_false, false_or, or_false, M0, R8, R10, hA, e24, e4]
    refine t_mCopies (i := 0) (j := 40 * A) A204 A205 L204 L205 (by omega) (by omega) (by omega) (by omega) (by decide) ?_
    have w1 : ∀ f, setR m 205 f 199 = m 199 := fun f => setR_n _ _ (by decide)
    simp only [xX6_remember_0, xX6_remember_1, xX6_remember_4, xX6_remember_6, xX6_remember_9, xX6_remember_10, xX6_remember_12, xX6_remember_15, xX6_remember_18, xX6_remember_19, xX6_remember_22, xX6_remember_23, xX6_remember_24, xX6_remember_27, xX6_remember_28, xX6_remember_30, xX6_remember_31, xX6_remember_32, xX6_remember_33, xX6_remember_36, xX6_remember_40, xX6_remember_41, xX6_remember_44, xX6_remember_45, xX6_remember_46, xX6_remember_49, xX6_remember_50, xX6_remember_53, xX6_remember_54, xX6_remember_55, xX6_remember_58, xX6_remember_60, xX6_remember_61, xX6_remember_64, xX6_remember_65, xX6_remember_68, xX6_remember_69, xX6_remember_70, xX6_remember_73, xX6_remember_74, xX6_remember_75, xX6_remember_78, Bool.false_eq_true, if_true, if_false, kl_i, kl_a, kl_s, kl_u, kl_l, okS_nil, okS_cons, cat_i, cat_a, cat_s, cat_l, Nat.reduceAdd, Nat.reduceLeDiff, Nat.reduceSub, Nat.sub_zero, Nat.sub_self, Nat.zero_add, Nat.le_refl, Nat.zero_le, List.length_cons, List.length_nil, true_and, and_true, true_or, or_true, eq_self, forall_const, true_implies, not_true_eq_false, not_false_eq_true, false_implies, implies_true, false_and, and_false, false_or, or_false, M0, w1, hA, nI1]
    exact hQ
