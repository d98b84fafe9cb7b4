/-! the model's trace: bodies leave their numbers -/
def mpsh (m : Mm) (t : Nat) : List Int32 → Mm
  | [] => m
  | b :: L => mpsh (upM (upM m 208 t b) 199 13 (nI (t + 1))) (t + 1) L
theorem l_lv2 {K : Cx} {d t : Nat} {σ : Sg} {m : Mm} {l : Ml} {b u left : Int64} {x : Int32} {Q : Rt} (hm : wfM σ) (ht : m 199 13 = nI t) (h16 : t < 16) (hu : 0 < u) (hx : (left / u).toInt32 = x)
    (hQ : WX (tX6_leave K d) Q (24, [.ref 199, .long b, .float 0, .long (u / 100), .float 0, .long (left - left / u * u), .float 0], [], (0, 0), σ, upM (upM m 208 t x) 199 13 (nI (t + 1)), l)) : WX (tX6_leave K d) Q (24, [.ref 199, .long b, .float 0, .long u, .float 0, .long left, .float 0], [], (0, 0), σ, m, l) := by
  obtain ⟨M0, R0, R1, R2, R4, R8, R10, R11, R12, R14, R20, R21, R22, A200, L200, A201, L201, A202, L202, A203, L203, A204, L204, A205, L205, A206, L206, A207, L207, A208, L208, A209, L209, A210, L210, A211, L211⟩ := hm
  have hcv := clN (v := t) (by omega)
  have hiv := inN (v := t) (n := 16) (by omega) (by omega)
  have hu0 : (u = 0) = False := eq_false (fun g => by subst g; exact absurd hu (by decide))
  have hc0 : ((100 : Int64) = 0) = False := eq_false (by decide)
  have e199 : ∀ y, upM m 208 t y 199 = m 199 := fun y => upM_n _ _ _ (by decide)
  rw [xX6_leave_24]
  simp only [xX6_leave_25, xX6_leave_26, xX6_leave_27, xX6_leave_30, xX6_leave_31, xX6_leave_34, xX6_leave_35, xX6_leave_38, xX6_leave_40, xX6_leave_41, xX6_leave_42, xX6_leave_43, xX6_leave_44, xX6_leave_46, xX6_leave_47, xX6_leave_48, xX6_leave_50, xX6_leave_51, xX6_leave_52, xX6_leave_55, xX6_leave_56, xX6_leave_57, xX6_leave_60, xX6_leave_61, xX6_leave_64, xX6_leave_65, xX6_leave_66, Bool.false_eq_true, if_true, if_false, kl_i, kl_a, kl_s, kl_u, kl_l, okS_nil, okS_cons, cat_i, cat_a, cat_s, cat_l, Nat.reduceAdd, Nat.reduceLeDiff, Nat.reduceSub, Nat.sub_zero, Nat.sub_self, Nat.zero_add, Nat.le_refl, Nat.zero_le, List.length_cons, List.length_nil, true_and, and_true, true_or, or_true, eq_self, forall_const, true_implies, not_true_eq_false, not_false_eq_true, false_implies, implies_true, false_and, and_false, false_or, or_false, lg_g, hu, M0, R14, A208, L208, ht, hcv, hiv, hu0, hc0, hx, e199, nI1]
  exact hQ
theorem l_lv1 {K : Cx} {d : Nat} {σ : Sg} {m : Mm} {l : Ml} {b u : Int64} {Q : Rt} (h : ¬ b < u * 100) (hQ : WX (tX6_leave K d) Q (2, [.ref 199, .long b, .float 0, .long (u * 100), .float 0, .float 0, .float 0], [], (0, 0), σ, m, l)) : WX (tX6_leave K d) Q (2, [.ref 199, .long b, .float 0, .long u, .float 0, .float 0, .float 0], [], (0, 0), σ, m, l) := by
  rw [xX6_leave_2]
  simp only [xX6_leave_3, xX6_leave_6, xX6_leave_7, xX6_leave_8, xX6_leave_9, xX6_leave_12, xX6_leave_13, xX6_leave_16, xX6_leave_17, xX6_leave_18, Bool.false_eq_true, if_true, if_false, kl_i, kl_a, kl_s, kl_u, kl_l, okS_nil, okS_cons, cat_i, cat_a, cat_s, cat_l, Nat.reduceAdd, Nat.reduceLeDiff, Nat.reduceSub, Nat.sub_zero, Nat.sub_self, Nat.zero_add, Nat.le_refl, Nat.zero_le, List.length_cons, List.length_nil, true_and, and_true, true_or, or_true, eq_self, forall_const, true_implies, not_true_eq_false, not_false_eq_true, false_implies, implies_true, false_and, and_false, false_or, or_false, lg_g, h]
  exact hQ
theorem l_lv0 {K : Cx} {d : Nat} {σ : Sg} {m : Mm} {l : Ml} {b u : Int64} {Q : Rt} (h : b < u * 100) (hQ : WX (tX6_leave K d) Q (24, [.ref 199, .long b, .float 0, .long u, .float 0, .long b, .float 0], [], (0, 0), σ, m, l)) : WX (tX6_leave K d) Q (2, [.ref 199, .long b, .float 0, .long u, .float 0, .float 0, .float 0], [], (0, 0), σ, m, l) := by
  rw [xX6_leave_2]
  simp only [xX6_leave_3, xX6_leave_6, xX6_leave_7, xX6_leave_8, xX6_leave_9, xX6_leave_21, xX6_leave_22, Bool.false_eq_true, if_true, if_false, kl_i, kl_a, kl_s, kl_u, kl_l, okS_nil, okS_cons, cat_i, cat_a, cat_s, cat_l, Nat.reduceAdd, Nat.reduceLeDiff, Nat.reduceSub, Nat.sub_zero, Nat.sub_self, Nat.zero_add, Nat.le_refl, Nat.zero_le, List.length_cons, List.length_nil, true_and, and_true, true_or, or_true, eq_self, forall_const, true_implies, not_true_eq_false, not_false_eq_true, false_implies, implies_true, false_and, and_false, false_or, or_false, lg_g, h]
  exact hQ
theorem l_lv9 {K : Cx} {d : Nat} {σ : Sg} {m : Mm} {l : Ml} {b u left : Int64} {Q : Rt} (h : ¬ 0 < u) (hQ : Q 0 σ m l) : WX (tX6_leave K d) Q (24, [.ref 199, .long b, .float 0, .long u, .float 0, .long left, .float 0], [], (0, 0), σ, m, l) := by
  rw [xX6_leave_24]
  simp only [xX6_leave_25, xX6_leave_26, xX6_leave_27, xX6_leave_69, Bool.false_eq_true, if_true, if_false, kl_i, kl_a, kl_s, kl_u, kl_l, okS_nil, okS_cons, cat_i, cat_a, cat_s, cat_l, Nat.reduceAdd, Nat.reduceLeDiff, Nat.reduceSub, Nat.sub_zero, Nat.sub_self, Nat.zero_add, Nat.le_refl, Nat.zero_le, List.length_cons, List.length_nil, true_and, and_true, true_or, or_true, eq_self, forall_const, true_implies, not_true_eq_false, not_false_eq_true, false_implies, implies_true, false_and, and_false, false_or, or_false, lg_g, h]
  exact hQ
theorem mp13 (m : Mm) (t : Nat) (x : Int32) : upM (upM m 208 t x) 199 13 (nI (t + 1)) 199 13 = nI (t + 1) := by rw [upM_s, upd_s]
theorem t_leave3 {K : Cx} {d t : Nat} {σ : Sg} {m : Mm} {l : Ml} {b : Int64} {p q r : Int32} {Q : Rt} (hm : wfM σ) (ht : m 199 13 = nI t) (h16 : t + 3 ≤ 16) (h1 : ¬ b < 1 * 100) (h2 : ¬ b < 1 * 100 * 100) (h3 : b < 1 * 100 * 100 * 100)
    (hp : (b / (1 * 100 * 100)).toInt32 = p) (hq : ((b - b / (1 * 100 * 100) * (1 * 100 * 100)) / (1 * 100 * 100 / 100)).toInt32 = q) (hr : ((b - b / (1 * 100 * 100) * (1 * 100 * 100) - (b - b / (1 * 100 * 100) * (1 * 100 * 100)) / (1 * 100 * 100 / 100) * (1 * 100 * 100 / 100)) / (1 * 100 * 100 / 100 / 100)).toInt32 = r)
    (hQ : Q 0 σ (mpsh m t [p, q, r]) l) : CT K (d + 1) YX6_leave [.ref 199, .long b] σ m l Q := by
  refine kX6_leave ?_
  simp only [xX6_leave_0, xX6_leave_1, Bool.false_eq_true, if_true, if_false, kl_i, kl_a, kl_s, kl_u, kl_l, okS_nil, okS_cons, cat_i, cat_a, cat_s, cat_l, Nat.reduceAdd, Nat.reduceLeDiff, Nat.reduceSub, Nat.sub_zero, Nat.sub_self, Nat.zero_add, Nat.le_refl, Nat.zero_le, List.length_cons, List.length_nil, true_and, and_true, true_or, or_true, eq_self, forall_const, true_implies, not_true_eq_false, not_false_eq_true, false_implies, implies_true, false_and, and_false, false_or, or_false]
  refine l_lv1 h1 (l_lv1 h2 (l_lv0 h3 ?_))
  refine l_lv2 hm ht (by omega) (by decide) hp ?_
  refine l_lv2 hm (mp13 _ _ _) (by omega) (by decide) hq ?_
  refine l_lv2 hm (mp13 _ _ _) (by omega) (by decide) hr ?_
  exact l_lv9 (by decide) hQ
theorem t_leave2 {K : Cx} {d t : Nat} {σ : Sg} {m : Mm} {l : Ml} {b : Int64} {p q : Int32} {Q : Rt} (hm : wfM σ) (ht : m 199 13 = nI t) (h16 : t + 2 ≤ 16) (h1 : ¬ b < 1 * 100) (h2 : b < 1 * 100 * 100)
    (hp : (b / (1 * 100)).toInt32 = p) (hq : ((b - b / (1 * 100) * (1 * 100)) / (1 * 100 / 100)).toInt32 = q)
    (hQ : Q 0 σ (mpsh m t [p, q]) l) : CT K (d + 1) YX6_leave [.ref 199, .long b] σ m l Q := by
  refine kX6_leave ?_
  simp only [xX6_leave_0, xX6_leave_1, Bool.false_eq_true, if_true, if_false, kl_i, kl_a, kl_s, kl_u, kl_l, okS_nil, okS_cons, cat_i, cat_a, cat_s, cat_l, Nat.reduceAdd, Nat.reduceLeDiff, Nat.reduceSub, Nat.sub_zero, Nat.sub_self, Nat.zero_add, Nat.le_refl, Nat.zero_le, List.length_cons, List.length_nil, true_and, and_true, true_or, or_true, eq_self, forall_const, true_implies, not_true_eq_false, not_false_eq_true, false_implies, implies_true, false_and, and_false, false_or, or_false]
  refine l_lv1 h1 (l_lv0 h2 ?_)
  refine l_lv2 hm ht (by omega) (by decide) hp ?_
  refine l_lv2 hm (mp13 _ _ _) (by omega) (by decide) hq ?_
  exact l_lv9 (by decide) hQ
theorem mpsh_o {o : Nat} (h1 : o ≠ 199) (h2 : o ≠ 208) : ∀ (L : List Int32) (m : Mm) (t : Nat), mpsh m t L o = m o := by
  intro L
  induction L with
  | nil => intro m t; rfl
  | cons b L ih => intro m t; rw [mpsh, ih, upM_n _ _ _ h1, upM_n _ _ _ h2]
/-- MARK's trace and answer, by kind -/
def mkL (k : Int32) : List Int32 := if k = 2 then [24, 21, 20] else if k = 3 then [22, 21, 20] else [21, 20]
def mkA (k p : Int32) : Int32 := if k = 2 then 2 * p else if k = 3 then p - 1000 else p
theorem t_mark {K : Cx} {d t v N : Nat} {σ : Sg} {m : Mm} {l : Ml} {Q : Rt} (hm : wfM σ) (hv : v < 7) (ht : m 199 13 = nI t) (h16 : t + 3 ≤ 16) (hQ : Q (mkA (m 204 (5 + v)) (nI v + m 204 (12 + v))) σ (mpsh m t (mkL (m 204 (5 + v)))) l) : CT K (d + 2) YX6_mark [.ref 199, .int (nI v)] σ m l Q := by
  have hm0 := hm
  obtain ⟨M0, R0, R1, R2, R4, R8, R10, R11, R12, R14, R20, R21, R22, A200, L200, A201, L201, A202, L202, A203, L203, A204, L204, A205, L205, A206, L206, A207, L207, A208, L208, A209, L209, A210, L210, A211, L211⟩ := hm
  have c5 := clN (v := 5 + v) (by omega)
  have v5 := inN (v := 5 + v) (n := 40) (by omega) (by omega)
  have c12 := clN (v := 12 + v) (by omega)
  have v12 := inN (v := 12 + v) (n := 40) (by omega) (by omega)
  refine kX6_mark ?_
  simp only [xX6_mark_0, xX6_mark_1, xX6_mark_4, xX6_mark_5, xX6_mark_6, xX6_mark_7, xX6_mark_8, xX6_mark_9, xX6_mark_10, xX6_mark_11, xX6_mark_14, xX6_mark_16, xX6_mark_17, xX6_mark_18, xX6_mark_19, xX6_mark_20, xX6_mark_21, xX6_mark_22, xX6_mark_23, xX6_mark_24, xX6_mark_27, xX6_mark_30, xX6_mark_33, xX6_mark_34, xX6_mark_35, xX6_mark_38, xX6_mark_41, xX6_mark_44, xX6_mark_47, xX6_mark_50, xX6_mark_51, xX6_mark_52, xX6_mark_55, xX6_mark_56, xX6_mark_57, xX6_mark_58, xX6_mark_61, xX6_mark_62, xX6_mark_63, xX6_mark_66, xX6_mark_67, xX6_mark_70, xX6_mark_71, xX6_mark_74, xX6_mark_75, Bool.false_eq_true, if_true, if_false, kl_i, kl_a, kl_s, kl_u, kl_l, okS_nil, okS_cons, cat_i, cat_a, cat_s, cat_l, Nat.reduceAdd, Nat.reduceLeDiff, Nat.reduceSub, Nat.sub_zero, Nat.sub_self, Nat.zero_add, Nat.le_refl, Nat.zero_le, List.length_cons, List.length_nil, true_and, and_true, true_or, or_true, eq_self, forall_const, true_implies, not_true_eq_false, not_false_eq_true, false_implies, implies_true, false_and, and_false, false_or, or_false, M0, R8, A204, L204, k5, k12, c5, v5, c12, v12]
  unfold mkA mkL at hQ
  by_cases h2 : m 204 (5 + v) = 2
  · rw [if_pos h2, if_pos h2] at hQ
    refine ⟨fun _ => ?_, fun g => absurd h2 g⟩
    refine t_leave3 hm0 ht h16 (by decide) (by decide) (by decide) (p := 24) (q := 21) (r := 20) (by decide) (by decide) (by decide) ?_
    exact ⟨fun _ => hQ, fun g => absurd h2 g⟩
  · rw [if_neg h2, if_neg h2] at hQ
    refine ⟨fun g => absurd g h2, fun _ => ?_⟩
    by_cases h3 : m 204 (5 + v) = 3
    · rw [if_pos h3, if_pos h3] at hQ
      refine ⟨fun _ => ?_, fun g => absurd h3 g⟩
      refine t_leave3 hm0 ht h16 (by decide) (by decide) (by decide) (p := 22) (q := 21) (r := 20) (by decide) (by decide) (by decide) ?_
      exact ⟨fun g => absurd g h2, fun _ => ⟨fun _ => hQ, fun g => absurd h3 g⟩⟩
    · rw [if_neg h3, if_neg h3] at hQ
      refine ⟨fun g => absurd g h3, fun _ => ?_⟩
      refine t_leave2 hm0 ht (by omega) (by decide) (by decide) (p := 21) (q := 20) (by decide) (by decide) ?_
      exact ⟨fun g => absurd g h2, fun _ => ⟨fun g => absurd g h3, fun _ => hQ⟩⟩
def soL (k : Int32) : List Int32 := if k = 5 then [14, 13, 10] else [13, 10]
def soA (k p : Int32) : Int32 := if k = 5 then 2 * p else p
theorem t_sizeOf {K : Cx} {d t v : Nat} {σ : Sg} {m : Mm} {l : Ml} {Q : Rt} (hm : wfM σ) (hv : v < 7) (ht : m 199 13 = nI t) (h16 : t + 3 ≤ 16) (hQ : Q (soA (m 204 (5 + v)) (m 204 (26 + v) - 100)) σ (mpsh m t (soL (m 204 (5 + v)))) l) : CT K (d + 2) YX6_sizeOf [.ref 199, .int (nI v)] σ m l Q := by
  have hm0 := hm
  obtain ⟨M0, R0, R1, R2, R4, R8, R10, R11, R12, R14, R20, R21, R22, A200, L200, A201, L201, A202, L202, A203, L203, A204, L204, A205, L205, A206, L206, A207, L207, A208, L208, A209, L209, A210, L210, A211, L211⟩ := hm
  have c5 := clN (v := 5 + v) (by omega)
  have v5 := inN (v := 5 + v) (n := 40) (by omega) (by omega)
  have c26 := clN (v := 26 + v) (by omega)
  have v26 := inN (v := 26 + v) (n := 40) (by omega) (by omega)
  refine kX6_sizeOf ?_
  simp only [xX6_sizeOf_0, xX6_sizeOf_1, xX6_sizeOf_4, xX6_sizeOf_6, xX6_sizeOf_7, xX6_sizeOf_8, xX6_sizeOf_9, xX6_sizeOf_11, xX6_sizeOf_12, xX6_sizeOf_13, xX6_sizeOf_14, xX6_sizeOf_17, xX6_sizeOf_18, xX6_sizeOf_19, xX6_sizeOf_20, xX6_sizeOf_21, xX6_sizeOf_22, xX6_sizeOf_25, xX6_sizeOf_26, xX6_sizeOf_29, xX6_sizeOf_30, xX6_sizeOf_31, xX6_sizeOf_32, xX6_sizeOf_33, xX6_sizeOf_36, xX6_sizeOf_39, xX6_sizeOf_42, xX6_sizeOf_45, xX6_sizeOf_48, xX6_sizeOf_49, xX6_sizeOf_52, xX6_sizeOf_53, xX6_sizeOf_54, xX6_sizeOf_55, xX6_sizeOf_58, xX6_sizeOf_59, Bool.false_eq_true, if_true, if_false, kl_i, kl_a, kl_s, kl_u, kl_l, okS_nil, okS_cons, cat_i, cat_a, cat_s, cat_l, Nat.reduceAdd, Nat.reduceLeDiff, Nat.reduceSub, Nat.sub_zero, Nat.sub_self, Nat.zero_add, Nat.le_refl, Nat.zero_le, List.length_cons, List.length_nil, true_and, and_true, true_or, or_true, eq_self, forall_const, true_implies, not_true_eq_false, not_false_eq_true, false_implies, implies_true, false_and, and_false, false_or, or_false, M0, R8, A204, L204, k5, k26, c5, v5, c26, v26, i10]
  unfold soA soL at hQ
  by_cases h5 : m 204 (5 + v) = 5
  · rw [if_pos h5, if_pos h5] at hQ
    refine ⟨fun _ => ?_, fun g => absurd h5 g⟩
    refine t_leave3 hm0 ht h16 (by decide) (by decide) (by decide) (p := 14) (q := 13) (r := 10) (by decide) (by decide) (by decide) ?_
    exact hQ
  · rw [if_neg h5, if_neg h5] at hQ
    refine ⟨fun g => absurd g h5, fun _ => ?_⟩
    refine t_leave2 hm0 ht (by omega) (by decide) (by decide) (p := 13) (q := 10) (by decide) (by decide) ?_
    exact hQ
