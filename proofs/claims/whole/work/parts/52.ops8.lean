/-! calls: day, weather -/
theorem p_day {K : Cx} {σ : Sg} (hw : WF σ) (x : Int32) : PAIR K σ YX5_day YX6_day [.int x] := by
  intro m l h
  obtain ⟨wN, wR, wT, wA, wL, wM, wI⟩ := hw
  have hM := wM
  have hA51 := wA
  obtain ⟨H0, F0, F1, F2, F3, F4, F5, F6, F7, P33, P39, P45⟩ := wN
  obtain ⟨M0, R0, R1, R2, R4, R8, R10, R11, R12, R14, R20, R21, R22, A200, L200, A201, L201, A202, L202, A203, L203, A204, L204, A205, L205, A206, L206, A207, L207, A208, L208, A209, L209, A210, L210, A211, L211⟩ := wM
  obtain ⟨N, X, A, h7, hn, hb, ht, hz, hX, hA, a1, a2, a3, ha⟩ := h.2.2.2.2.1
  have c3 := BD_3 hb
  have hq3 : m 33 9 = m 204 3 := hn.1.2.2.2.1
  have modb : ∀ r, ((m 199 7 = 0 ∧ r = -1000002) ∨ (m 199 7 ≠ 0 ∧ ¬ (¬ x < 0 ∧ ¬ 99 < x) ∧ r = -1000001) ∨ (m 199 7 ≠ 0 ∧ (¬ x < 0 ∧ ¬ 99 < x) ∧ m 204 3 = 9999 ∧ r = -1000003)) → CT K 12 YX6_day [.ref 199, .int x] σ m l (fun r' σ2 m2 l2 => σ2 = σ ∧ r' = r ∧ RR m2) := by
    intro r hr
    refine kX6_day ?_
    simp only [xX6_day_0, xX6_day_1, xX6_day_4, xX6_day_7, xX6_day_9, xX6_day_10, xX6_day_11, xX6_day_12, xX6_day_13, xX6_day_16, xX6_day_19, xX6_day_22, xX6_day_24, xX6_day_25, xX6_day_26, xX6_day_29, xX6_day_30, xX6_day_31, xX6_day_34, xX6_day_37, xX6_day_39, xX6_day_40, xX6_day_41, xX6_day_44, xX6_day_45, xX6_day_48, xX6_day_49, xX6_day_52, Bool.false_eq_true, if_true, if_false, kl_i, kl_a, kl_s, kl_u, kl_l, okS_nil, okS_cons, cat_i, cat_a, cat_s, cat_l, Nat.reduceAdd, Nat.reduceLeDiff, Nat.reduceSub, Nat.sub_zero, Nat.sub_self, Nat.zero_add, Nat.le_refl, Nat.zero_le, List.length_cons, List.length_nil, true_and, and_true, true_or, or_true, eq_self, forall_const, true_implies, not_true_eq_false, not_false_eq_true, false_implies, implies_true, false_and, and_false, false_or, or_false, M0]
    rcases hr with ⟨g1, g2⟩ | ⟨g1, g2, g3⟩ | ⟨g1, g2, g3, g4⟩
    · exact ⟨fun _ => ⟨g2.symm, h⟩, fun g => absurd g1 g⟩
    · refine ⟨fun g => absurd g g1, fun _ => ?_⟩
      refine t_inI (a := 0) (b := 99) (by decide) (by decide) ?_
      rw [if_neg g2]
      simp only [xX6_day_0, xX6_day_1, xX6_day_4, xX6_day_7, xX6_day_9, xX6_day_10, xX6_day_11, xX6_day_12, xX6_day_13, xX6_day_16, xX6_day_19, xX6_day_22, xX6_day_24, xX6_day_25, xX6_day_26, xX6_day_29, xX6_day_30, xX6_day_31, xX6_day_34, xX6_day_37, xX6_day_39, xX6_day_40, xX6_day_41, xX6_day_44, xX6_day_45, xX6_day_48, xX6_day_49, xX6_day_52, Bool.false_eq_true, if_true, if_false, kl_i, kl_a, kl_s, kl_u, kl_l, okS_nil, okS_cons, cat_i, cat_a, cat_s, cat_l, Nat.reduceAdd, Nat.reduceLeDiff, Nat.reduceSub, Nat.sub_zero, Nat.sub_self, Nat.zero_add, Nat.le_refl, Nat.zero_le, List.length_cons, List.length_nil, true_and, and_true, true_or, or_true, eq_self, forall_const, true_implies, not_true_eq_false, not_false_eq_true, false_implies, implies_true, false_and, and_false, false_or, or_false, M0]
      exact ⟨g3.symm, h⟩
    · refine ⟨fun g => absurd g g1, fun _ => ?_⟩
      refine t_inI (a := 0) (b := 99) (by decide) (by decide) ?_
      rw [if_pos g2]
      have c3' : Int32.toNatClampNeg 3 = 3 := cl3
      simp only [xX6_day_0, xX6_day_1, xX6_day_4, xX6_day_7, xX6_day_9, xX6_day_10, xX6_day_11, xX6_day_12, xX6_day_13, xX6_day_16, xX6_day_19, xX6_day_22, xX6_day_24, xX6_day_25, xX6_day_26, xX6_day_29, xX6_day_30, xX6_day_31, xX6_day_34, xX6_day_37, xX6_day_39, xX6_day_40, xX6_day_41, xX6_day_44, xX6_day_45, xX6_day_48, xX6_day_49, xX6_day_52, Bool.false_eq_true, if_true, if_false, kl_i, kl_a, kl_s, kl_u, kl_l, okS_nil, okS_cons, cat_i, cat_a, cat_s, cat_l, Nat.reduceAdd, Nat.reduceLeDiff, Nat.reduceSub, Nat.sub_zero, Nat.sub_self, Nat.zero_add, Nat.le_refl, Nat.zero_le, List.length_cons, List.length_nil, true_and, and_true, true_or, or_true, eq_self, forall_const, true_implies, not_true_eq_false, not_false_eq_true, false_implies, implies_true, false_and, and_false, false_or, or_false, M0, R8, A204, L204, i10, cl3, vi3, g3]
      exact ⟨g4.symm, h⟩
  refine kX5_day ?_
  simp only [xX5_day_0, xX5_day_1, xX5_day_4, xX5_day_7, xX5_day_10, xX5_day_12, xX5_day_13, xX5_day_14, xX5_day_17, xX5_day_18, xX5_day_20, xX5_day_23, xX5_day_25, xX5_day_26, xX5_day_27, xX5_day_30, xX5_day_33, xX5_day_36, xX5_day_39, xX5_day_41, xX5_day_42, xX5_day_43, xX5_day_46, xX5_day_47, xX5_day_50, xX5_day_53, xX5_day_54, xX5_day_57, xX5_day_58, xX5_day_61, Bool.false_eq_true, if_true, if_false, kl_i, kl_a, kl_s, kl_u, kl_l, okS_nil, okS_cons, cat_i, cat_a, cat_s, cat_l, Nat.reduceAdd, Nat.reduceLeDiff, Nat.reduceSub, Nat.sub_zero, Nat.sub_self, Nat.zero_add, Nat.le_refl, Nat.zero_le, List.length_cons, List.length_nil, true_and, and_true, true_or, or_true, eq_self, forall_const, true_implies, not_true_eq_false, not_false_eq_true, false_implies, implies_true, false_and, and_false, false_or, or_false, H0, F0, F1, F2, F3, F4, F5, F6, F7, P33.1, P39.1, P45.1, hA51.1, hq3, c3]
  rw [ht]
  refine ⟨fun g => modb _ (Or.inl ⟨g, rfl⟩), fun g0 => ?_⟩
  by_cases hx0 : x < 0
  · exact ⟨fun _ => modb _ (Or.inr (Or.inl ⟨g0, fun g => g.1 hx0, rfl⟩)), fun g => absurd hx0 g⟩
  refine ⟨fun g => absurd g hx0, fun _ => ?_⟩
  by_cases hx1 : 99 < x
  · exact ⟨fun _ => modb _ (Or.inr (Or.inl ⟨g0, fun g => g.2 hx1, rfl⟩)), fun g => absurd hx1 g⟩
  refine ⟨fun g => absurd g hx1, fun _ => ?_⟩
  have hx : ¬ x < 0 ∧ ¬ 99 < x := ⟨hx0, hx1⟩
  by_cases hd : m 204 3 = 9999
  · first
      | exact ⟨fun g => absurd hd g, fun _ => modb _ (Or.inr (Or.inr ⟨g0, hx, hd, rfl⟩))⟩
      | exact ⟨fun _ => modb _ (Or.inr (Or.inr ⟨g0, hx, hd, rfl⟩)), fun g => absurd hd g⟩
  have g1 : m 33 5 = 1 := hn.2.2.resolve_left (fun g => g0 (by rw [← ht]; exact g))
  have hxr : ∃ R : Nat, R < 100 ∧ x = nI R := by
    refine nat_of (N := 100) (by omega) hx0 ?_
    rw [Int32.lt_iff_toInt_lt] at hx1 ⊢
    rw [nI_toInt (by omega)]
    have e : (99 : Int32).toInt = 99 := by decide
    omega
  obtain ⟨R, hR, e⟩ := hxr
  subst e
  first
    | refine ⟨fun _ => ?_, fun g => absurd g hd⟩
    | refine ⟨fun g => absurd g hd, fun _ => ?_⟩
    | refine ⟨fun _ => ?_, fun g => absurd hd g⟩
  refine t_keep hA51 P33 (by omega) hn.2.2 a1 hX ?_
  simp only [xX5_day_0, xX5_day_1, xX5_day_4, xX5_day_7, xX5_day_10, xX5_day_12, xX5_day_13, xX5_day_14, xX5_day_17, xX5_day_18, xX5_day_20, xX5_day_23, xX5_day_25, xX5_day_26, xX5_day_27, xX5_day_30, xX5_day_33, xX5_day_36, xX5_day_39, xX5_day_41, xX5_day_42, xX5_day_43, xX5_day_46, xX5_day_47, xX5_day_50, xX5_day_53, xX5_day_54, xX5_day_57, xX5_day_58, xX5_day_61, Bool.false_eq_true, if_true, if_false, kl_i, kl_a, kl_s, kl_u, kl_l, okS_nil, okS_cons, cat_i, cat_a, cat_s, cat_l, Nat.reduceAdd, Nat.reduceLeDiff, Nat.reduceSub, Nat.sub_zero, Nat.sub_self, Nat.zero_add, Nat.le_refl, Nat.zero_le, List.length_cons, List.length_nil, true_and, and_true, true_or, or_true, eq_self, forall_const, true_implies, not_true_eq_false, not_false_eq_true, false_implies, implies_true, false_and, and_false, false_or, or_false, H0, F0, F1, F2, F3, F4, F5, F6, F7, P33.1, P39.1, P45.1]
  have ek : ∀ j, j < 6 → getP (keepQ m 33 X) 33 j = getP m 33 j := fun j hj => keepQ_at (by omega) (by omega)
  have hn2 : triQ N (getP (keepQ m 33 X) 33) (m 204) (fun _ => True) := triQ_x h7 ek (fun _ _ => rfl) hn
  rw [← putP_get (keepQ m 33 X) 33]
  refine t_passDay P33 hn2.2.1 h7 ?_
  rw [(tri_day (nI R) h7 hn2).1]
  refine ⟨rfl, kX6_day ?_⟩
  have e199 : putP (keepQ m 33 X) 33 (dayQ N (getP (keepQ m 33 X) 33) (nI R)) 199 = m 199 := by rw [putP_o _ _ (by omega), keepQ_at (by decide) (by omega)]
  have e204 : putP (keepQ m 33 X) 33 (dayQ N (getP (keepQ m 33 X) 33) (nI R)) 204 = m 204 := by rw [putP_o _ _ (by omega), keepQ_at (by decide) (by omega)]
  simp only [xX6_day_0, xX6_day_1, xX6_day_4, xX6_day_7, xX6_day_9, xX6_day_10, xX6_day_11, xX6_day_12, xX6_day_13, xX6_day_16, xX6_day_19, xX6_day_22, xX6_day_24, xX6_day_25, xX6_day_26, xX6_day_29, xX6_day_30, xX6_day_31, xX6_day_34, xX6_day_37, xX6_day_39, xX6_day_40, xX6_day_41, xX6_day_44, xX6_day_45, xX6_day_48, xX6_day_49, xX6_day_52, Bool.false_eq_true, if_true, if_false, kl_i, kl_a, kl_s, kl_u, kl_l, okS_nil, okS_cons, cat_i, cat_a, cat_s, cat_l, Nat.reduceAdd, Nat.reduceLeDiff, Nat.reduceSub, Nat.sub_zero, Nat.sub_self, Nat.zero_add, Nat.le_refl, Nat.zero_le, List.length_cons, List.length_nil, true_and, and_true, true_or, or_true, eq_self, forall_const, true_implies, not_true_eq_false, not_false_eq_true, false_implies, implies_true, false_and, and_false, false_or, or_false, M0, e199]
  refine ⟨fun g => absurd g g0, fun _ => ?_⟩
  refine t_inI (a := 0) (b := 99) (by decide) (by decide) ?_
  rw [if_pos hx]
  simp only [xX6_day_0, xX6_day_1, xX6_day_4, xX6_day_7, xX6_day_9, xX6_day_10, xX6_day_11, xX6_day_12, xX6_day_13, xX6_day_16, xX6_day_19, xX6_day_22, xX6_day_24, xX6_day_25, xX6_day_26, xX6_day_29, xX6_day_30, xX6_day_31, xX6_day_34, xX6_day_37, xX6_day_39, xX6_day_40, xX6_day_41, xX6_day_44, xX6_day_45, xX6_day_48, xX6_day_49, xX6_day_52, Bool.false_eq_true, if_true, if_false, kl_i, kl_a, kl_s, kl_u, kl_l, okS_nil, okS_cons, cat_i, cat_a, cat_s, cat_l, Nat.reduceAdd, Nat.reduceLeDiff, Nat.reduceSub, Nat.sub_zero, Nat.sub_self, Nat.zero_add, Nat.le_refl, Nat.zero_le, List.length_cons, List.length_nil, true_and, and_true, true_or, or_true, eq_self, forall_const, true_implies, not_true_eq_false, not_false_eq_true, false_implies, implies_true, false_and, and_false, false_or, or_false, M0, R8, A204, L204, i10, cl3, vi3, e204]
  refine ⟨fun g => absurd g hd, fun _ => ?_⟩
  refine t_remember hM (by rw [e199]; exact a3) hA ?_
  simp only [xX6_day_0, xX6_day_1, xX6_day_4, xX6_day_7, xX6_day_9, xX6_day_10, xX6_day_11, xX6_day_12, xX6_day_13, xX6_day_16, xX6_day_19, xX6_day_22, xX6_day_24, xX6_day_25, xX6_day_26, xX6_day_29, xX6_day_30, xX6_day_31, xX6_day_34, xX6_day_37, xX6_day_39, xX6_day_40, xX6_day_41, xX6_day_44, xX6_day_45, xX6_day_48, xX6_day_49, xX6_day_52, Bool.false_eq_true, if_true, if_false, kl_i, kl_a, kl_s, kl_u, kl_l, okS_nil, okS_cons, cat_i, cat_a, cat_s, cat_l, Nat.reduceAdd, Nat.reduceLeDiff, Nat.reduceSub, Nat.sub_zero, Nat.sub_self, Nat.zero_add, Nat.le_refl, Nat.zero_le, List.length_cons, List.length_nil, true_and, and_true, true_or, or_true, eq_self, forall_const, true_implies, not_true_eq_false, not_false_eq_true, false_implies, implies_true, false_and, and_false, false_or, or_false, M0, R8]
  have es := setR_id (remQ (putP (keepQ m 33 X) 33 (dayQ N (getP (keepQ m 33 X) 33) (nI R))) A) 204
  rw [remQ_at (by decide) (by decide), e204] at es
  rw [← es]
  refine t_mGoes ⟨A204, L204⟩ (now_2 hn) h7 ?_
  exact ⟨rfl, rfl, RR_day (R := R) h h7 hX hA hn hb ht a1 a2 ha g1 (by omega) hd rfl⟩
theorem rem64 {a b : Int64} (ha : 0 ≤ a.toInt) (hb : 0 < b.toInt) : (a - a / b * b).toInt = a.toInt % b.toInt := by
  have hlt := Int64.toInt_lt a
  have hd := Int.emod_def a.toInt b.toInt
  have h0 := Int.emod_nonneg a.toInt (by omega : b.toInt ≠ 0)
  have h1 := Int.emod_lt_of_pos a.toInt hb
  have hq0 : 0 ≤ a.toInt / b.toInt := Int.ediv_nonneg ha (by omega)
  have hqa : a.toInt / b.toInt ≤ a.toInt := Int.ediv_le_self _ ha
  have eq : (a / b).toInt = a.toInt / b.toInt := by
    rw [Int64.toInt_div, Int.tdiv_eq_ediv_of_nonneg ha]
    exact Int.bmod_eq_of_le (by omega) (by omega)
  have hm : (a.toInt / b.toInt) * b.toInt = a.toInt - a.toInt % b.toInt := by rw [hd, Int.mul_comm]; omega
  have hp : 0 ≤ a.toInt / b.toInt * b.toInt := Int.mul_nonneg hq0 (by omega)
  have em : (a / b * b).toInt = a.toInt - a.toInt % b.toInt := by
    rw [Int64.toInt_mul, eq, hm]
    exact Int.bmod_eq_of_le (by omega) (by omega)
  rw [Int64.toInt_sub, em]
  have : a.toInt - (a.toInt - a.toInt % b.toInt) = a.toInt % b.toInt := by omega
  rw [this]
  exact Int.bmod_eq_of_le (by omega) (by omega)
theorem rain20 {x : Int32} (h : ¬ x < 1 ∧ ¬ 999999 < x) : ∃ R : Nat, R < 20 ∧ (x.toInt64 * 16807 - x.toInt64 * 16807 / 2147483647 * 2147483647 - (x.toInt64 * 16807 - x.toInt64 * 16807 / 2147483647 * 2147483647) / 20 * 20).toInt32 = nI R := by
  obtain ⟨h1, h2⟩ := h
  rw [Int32.lt_iff_toInt_lt] at h1 h2
  have e1 : (1 : Int32).toInt = 1 := by decide
  have e2 : (999999 : Int32).toInt = 999999 := by decide
  rw [e1] at h1
  rw [e2] at h2
  have m1 : (x.toInt64 * 16807).toInt = x.toInt * 16807 := by
    rw [Int64.toInt_mul, Int32.toInt_toInt64, show (16807 : Int64).toInt = 16807 by decide]
    exact Int.bmod_eq_of_le (by omega) (by omega)
  have d1 : (2147483647 : Int64).toInt = 2147483647 := by decide
  have d2 : (20 : Int64).toInt = 20 := by decide
  have r1 : (x.toInt64 * 16807 - x.toInt64 * 16807 / 2147483647 * 2147483647).toInt = x.toInt * 16807 % 2147483647 := by
    rw [rem64 (by rw [m1]; omega) (by rw [d1]; omega), m1, d1]
  have m2 := rem64 (a := x.toInt64 * 16807 - x.toInt64 * 16807 / 2147483647 * 2147483647) (b := 20) (by rw [r1]; omega) (by rw [d2]; omega)
  rw [r1, d2] at m2
  refine ⟨(x.toInt * 16807 % 2147483647 % 20).toNat, by omega, Int32.toInt_inj.mp ?_⟩
  rw [Int64.toInt_toInt32, m2, nI_toInt (by omega)]
  have : (x.toInt * 16807 % 2147483647 % 20).bmod (2 ^ 32) = x.toInt * 16807 % 2147483647 % 20 := Int.bmod_eq_of_le (by omega) (by omega)
  rw [this]
  omega
theorem p_weather {K : Cx} {σ : Sg} (hw : WF σ) (x : Int32) : PAIR K σ YX5_weather YX6_weather [.int x] := by
  intro m l h
  obtain ⟨wN, wR, wT, wA, wL, wM, wI⟩ := hw
  have hM := wM
  have hA51 := wA
  obtain ⟨H0, F0, F1, F2, F3, F4, F5, F6, F7, P33, P39, P45⟩ := wN
  obtain ⟨M0, R0, R1, R2, R4, R8, R10, R11, R12, R14, R20, R21, R22, A200, L200, A201, L201, A202, L202, A203, L203, A204, L204, A205, L205, A206, L206, A207, L207, A208, L208, A209, L209, A210, L210, A211, L211⟩ := wM
  obtain ⟨N, X, A, h7, hn, hb, ht, hz, hX, hA, a1, a2, a3, ha⟩ := h.2.2.2.2.1
  have c3 := BD_3 hb
  have hq3 : m 33 9 = m 204 3 := hn.1.2.2.2.1
  have modb : ∀ r, ((m 199 7 = 0 ∧ r = -1000002) ∨ (m 199 7 ≠ 0 ∧ ¬ (¬ x < 1 ∧ ¬ 999999 < x) ∧ r = -1000001) ∨ (m 199 7 ≠ 0 ∧ (¬ x < 1 ∧ ¬ 999999 < x) ∧ m 204 3 = 9999 ∧ r = -1000003)) → CT K 12 YX6_weather [.ref 199, .int x] σ m l (fun r' σ2 m2 l2 => σ2 = σ ∧ r' = r ∧ RR m2) := by
    intro r hr
    refine kX6_weather ?_
    simp only [xX6_weather_0, xX6_weather_1, xX6_weather_4, xX6_weather_7, xX6_weather_9, xX6_weather_10, xX6_weather_11, xX6_weather_12, xX6_weather_13, xX6_weather_16, xX6_weather_19, xX6_weather_22, xX6_weather_24, xX6_weather_25, xX6_weather_26, xX6_weather_29, xX6_weather_30, xX6_weather_31, xX6_weather_34, xX6_weather_37, xX6_weather_39, xX6_weather_40, xX6_weather_41, xX6_weather_44, xX6_weather_45, xX6_weather_46, xX6_weather_49, xX6_weather_50, xX6_weather_53, xX6_weather_54, xX6_weather_57, xX6_weather_58, xX6_weather_59, xX6_weather_60, xX6_weather_61, xX6_weather_64, xX6_weather_65, xX6_weather_68, xX6_weather_69, xX6_weather_70, Bool.false_eq_true, if_true, if_false, kl_i, kl_a, kl_s, kl_u, kl_l, okS_nil, okS_cons, cat_i, cat_a, cat_s, cat_l, Nat.reduceAdd, Nat.reduceLeDiff, Nat.reduceSub, Nat.sub_zero, Nat.sub_self, Nat.zero_add, Nat.le_refl, Nat.zero_le, List.length_cons, List.length_nil, true_and, and_true, true_or, or_true, eq_self, forall_const, true_implies, not_true_eq_false, not_false_eq_true, false_implies, implies_true, false_and, and_false, false_or, or_false, M0]
    rcases hr with ⟨g1, g2⟩ | ⟨g1, g2, g3⟩ | ⟨g1, g2, g3, g4⟩
    · exact ⟨fun _ => ⟨g2.symm, h⟩, fun g => absurd g1 g⟩
    · refine ⟨fun g => absurd g g1, fun _ => ?_⟩
      refine t_inI (a := 1) (b := 999999) (by decide) (by decide) ?_
      rw [if_neg g2]
      simp only [xX6_weather_0, xX6_weather_1, xX6_weather_4, xX6_weather_7, xX6_weather_9, xX6_weather_10, xX6_weather_11, xX6_weather_12, xX6_weather_13, xX6_weather_16, xX6_weather_19, xX6_weather_22, xX6_weather_24, xX6_weather_25, xX6_weather_26, xX6_weather_29, xX6_weather_30, xX6_weather_31, xX6_weather_34, xX6_weather_37, xX6_weather_39, xX6_weather_40, xX6_weather_41, xX6_weather_44, xX6_weather_45, xX6_weather_46, xX6_weather_49, xX6_weather_50, xX6_weather_53, xX6_weather_54, xX6_weather_57, xX6_weather_58, xX6_weather_59, xX6_weather_60, xX6_weather_61, xX6_weather_64, xX6_weather_65, xX6_weather_68, xX6_weather_69, xX6_weather_70, Bool.false_eq_true, if_true, if_false, kl_i, kl_a, kl_s, kl_u, kl_l, okS_nil, okS_cons, cat_i, cat_a, cat_s, cat_l, Nat.reduceAdd, Nat.reduceLeDiff, Nat.reduceSub, Nat.sub_zero, Nat.sub_self, Nat.zero_add, Nat.le_refl, Nat.zero_le, List.length_cons, List.length_nil, true_and, and_true, true_or, or_true, eq_self, forall_const, true_implies, not_true_eq_false, not_false_eq_true, false_implies, implies_true, false_and, and_false, false_or, or_false, M0]
      exact ⟨g3.symm, h⟩
    · refine ⟨fun g => absurd g g1, fun _ => ?_⟩
      refine t_inI (a := 1) (b := 999999) (by decide) (by decide) ?_
      rw [if_pos g2]
      have c3' : Int32.toNatClampNeg 3 = 3 := cl3
      simp only [xX6_weather_0, xX6_weather_1, xX6_weather_4, xX6_weather_7, xX6_weather_9, xX6_weather_10, xX6_weather_11, xX6_weather_12, xX6_weather_13, xX6_weather_16, xX6_weather_19, xX6_weather_22, xX6_weather_24, xX6_weather_25, xX6_weather_26, xX6_weather_29, xX6_weather_30, xX6_weather_31, xX6_weather_34, xX6_weather_37, xX6_weather_39, xX6_weather_40, xX6_weather_41, xX6_weather_44, xX6_weather_45, xX6_weather_46, xX6_weather_49, xX6_weather_50, xX6_weather_53, xX6_weather_54, xX6_weather_57, xX6_weather_58, xX6_weather_59, xX6_weather_60, xX6_weather_61, xX6_weather_64, xX6_weather_65, xX6_weather_68, xX6_weather_69, xX6_weather_70, Bool.false_eq_true, if_true, if_false, kl_i, kl_a, kl_s, kl_u, kl_l, okS_nil, okS_cons, cat_i, cat_a, cat_s, cat_l, Nat.reduceAdd, Nat.reduceLeDiff, Nat.reduceSub, Nat.sub_zero, Nat.sub_self, Nat.zero_add, Nat.le_refl, Nat.zero_le, List.length_cons, List.length_nil, true_and, and_true, true_or, or_true, eq_self, forall_const, true_implies, not_true_eq_false, not_false_eq_true, false_implies, implies_true, false_and, and_false, false_or, or_false, M0, R8, A204, L204, i10, cl3, vi3, g3]
      exact ⟨g4.symm, h⟩
  refine kX5_weather ?_
  simp only [xX5_weather_0, xX5_weather_1, xX5_weather_4, xX5_weather_7, xX5_weather_10, xX5_weather_12, xX5_weather_13, xX5_weather_14, xX5_weather_15, xX5_weather_18, xX5_weather_19, xX5_weather_21, xX5_weather_24, xX5_weather_26, xX5_weather_27, xX5_weather_28, xX5_weather_31, xX5_weather_34, xX5_weather_37, xX5_weather_40, xX5_weather_42, xX5_weather_43, xX5_weather_44, xX5_weather_45, xX5_weather_48, xX5_weather_49, xX5_weather_52, xX5_weather_53, xX5_weather_56, xX5_weather_57, xX5_weather_58, xX5_weather_59, xX5_weather_60, xX5_weather_63, xX5_weather_64, xX5_weather_67, xX5_weather_70, xX5_weather_71, xX5_weather_74, xX5_weather_75, xX5_weather_78, xX5_weather_79, xX5_weather_80, Bool.false_eq_true, if_true, if_false, kl_i, kl_a, kl_s, kl_u, kl_l, okS_nil, okS_cons, cat_i, cat_a, cat_s, cat_l, Nat.reduceAdd, Nat.reduceLeDiff, Nat.reduceSub, Nat.sub_zero, Nat.sub_self, Nat.zero_add, Nat.le_refl, Nat.zero_le, List.length_cons, List.length_nil, true_and, and_true, true_or, or_true, eq_self, forall_const, true_implies, not_true_eq_false, not_false_eq_true, false_implies, implies_true, false_and, and_false, false_or, or_false, H0, F0, F1, F2, F3, F4, F5, F6, F7, P33.1, P39.1, P45.1, hA51.1, hq3, c3]
  rw [ht]
  refine ⟨fun g => modb _ (Or.inl ⟨g, rfl⟩), fun g0 => ?_⟩
  by_cases hx0 : x < 1
  · exact ⟨fun _ => modb _ (Or.inr (Or.inl ⟨g0, fun g => g.1 hx0, rfl⟩)), fun g => absurd hx0 g⟩
  refine ⟨fun g => absurd g hx0, fun _ => ?_⟩
  by_cases hx1 : 999999 < x
  · exact ⟨fun _ => modb _ (Or.inr (Or.inl ⟨g0, fun g => g.2 hx1, rfl⟩)), fun g => absurd hx1 g⟩
  refine ⟨fun g => absurd g hx1, fun _ => ?_⟩
  have hx : ¬ x < 1 ∧ ¬ 999999 < x := ⟨hx0, hx1⟩
  by_cases hd : m 204 3 = 9999
  · first
      | exact ⟨fun g => absurd hd g, fun _ => modb _ (Or.inr (Or.inr ⟨g0, hx, hd, rfl⟩))⟩
      | exact ⟨fun _ => modb _ (Or.inr (Or.inr ⟨g0, hx, hd, rfl⟩)), fun g => absurd hd g⟩
  have g1 : m 33 5 = 1 := hn.2.2.resolve_left (fun g => g0 (by rw [← ht]; exact g))
  obtain ⟨R, hR, eR⟩ := rain20 hx
  have z1 : ((2147483647 : Int64) = 0) = False := eq_false (by decide)
  have z2 : ((20 : Int64) = 0) = False := eq_false (by decide)
  simp only [eR, z1, z2, Bool.false_eq_true, if_true, if_false, kl_i, kl_a, kl_s, kl_u, kl_l, okS_nil, okS_cons, cat_i, cat_a, cat_s, cat_l, Nat.reduceAdd, Nat.reduceLeDiff, Nat.reduceSub, Nat.sub_zero, Nat.sub_self, Nat.zero_add, Nat.le_refl, Nat.zero_le, List.length_cons, List.length_nil, true_and, and_true, true_or, or_true, eq_self, forall_const, true_implies, not_true_eq_false, not_false_eq_true, false_implies, implies_true, false_and, and_false, false_or, or_false]
  first
    | refine ⟨fun _ => ?_, fun g => absurd g hd⟩
    | refine ⟨fun g => absurd g hd, fun _ => ?_⟩
    | refine ⟨fun _ => ?_, fun g => absurd hd g⟩
  refine t_keep hA51 P33 (by omega) hn.2.2 a1 hX ?_
  simp only [xX5_weather_0, xX5_weather_1, xX5_weather_4, xX5_weather_7, xX5_weather_10, xX5_weather_12, xX5_weather_13, xX5_weather_14, xX5_weather_15, xX5_weather_18, xX5_weather_19, xX5_weather_21, xX5_weather_24, xX5_weather_26, xX5_weather_27, xX5_weather_28, xX5_weather_31, xX5_weather_34, xX5_weather_37, xX5_weather_40, xX5_weather_42, xX5_weather_43, xX5_weather_44, xX5_weather_45, xX5_weather_48, xX5_weather_49, xX5_weather_52, xX5_weather_53, xX5_weather_56, xX5_weather_57, xX5_weather_58, xX5_weather_59, xX5_weather_60, xX5_weather_63, xX5_weather_64, xX5_weather_67, xX5_weather_70, xX5_weather_71, xX5_weather_74, xX5_weather_75, xX5_weather_78, xX5_weather_79, xX5_weather_80, Bool.false_eq_true, if_true, if_false, kl_i, kl_a, kl_s, kl_u, kl_l, okS_nil, okS_cons, cat_i, cat_a, cat_s, cat_l, Nat.reduceAdd, Nat.reduceLeDiff, Nat.reduceSub, Nat.sub_zero, Nat.sub_self, Nat.zero_add, Nat.le_refl, Nat.zero_le, List.length_cons, List.length_nil, true_and, and_true, true_or, or_true, eq_self, forall_const, true_implies, not_true_eq_false, not_false_eq_true, false_implies, implies_true, false_and, and_false, false_or, or_false, H0, F0, F1, F2, F3, F4, F5, F6, F7, P33.1, P39.1, P45.1]
  have ek : ∀ j, j < 6 → getP (keepQ m 33 X) 33 j = getP m 33 j := fun j hj => keepQ_at (by omega) (by omega)
  have hn2 : triQ N (getP (keepQ m 33 X) 33) (m 204) (fun _ => True) := triQ_x h7 ek (fun _ _ => rfl) hn
  rw [← putP_get (keepQ m 33 X) 33]
  refine t_passDay P33 hn2.2.1 h7 ?_
  simp only [xX5_weather_0, xX5_weather_1, xX5_weather_4, xX5_weather_7, xX5_weather_10, xX5_weather_12, xX5_weather_13, xX5_weather_14, xX5_weather_15, xX5_weather_18, xX5_weather_19, xX5_weather_21, xX5_weather_24, xX5_weather_26, xX5_weather_27, xX5_weather_28, xX5_weather_31, xX5_weather_34, xX5_weather_37, xX5_weather_40, xX5_weather_42, xX5_weather_43, xX5_weather_44, xX5_weather_45, xX5_weather_48, xX5_weather_49, xX5_weather_52, xX5_weather_53, xX5_weather_56, xX5_weather_57, xX5_weather_58, xX5_weather_59, xX5_weather_60, xX5_weather_63, xX5_weather_64, xX5_weather_67, xX5_weather_70, xX5_weather_71, xX5_weather_74, xX5_weather_75, xX5_weather_78, xX5_weather_79, xX5_weather_80, Bool.false_eq_true, if_true, if_false, kl_i, kl_a, kl_s, kl_u, kl_l, okS_nil, okS_cons, cat_i, cat_a, cat_s, cat_l, Nat.reduceAdd, Nat.reduceLeDiff, Nat.reduceSub, Nat.sub_zero, Nat.sub_self, Nat.zero_add, Nat.le_refl, Nat.zero_le, List.length_cons, List.length_nil, true_and, and_true, true_or, or_true, eq_self, forall_const, true_implies, not_true_eq_false, not_false_eq_true, false_implies, implies_true, false_and, and_false, false_or, or_false]
  refine kX6_weather ?_
  have e199 : putP (keepQ m 33 X) 33 (dayQ N (getP (keepQ m 33 X) 33) (nI R)) 199 = m 199 := by rw [putP_o _ _ (by omega), keepQ_at (by decide) (by omega)]
  have e204 : putP (keepQ m 33 X) 33 (dayQ N (getP (keepQ m 33 X) 33) (nI R)) 204 = m 204 := by rw [putP_o _ _ (by omega), keepQ_at (by decide) (by omega)]
  simp only [xX6_weather_0, xX6_weather_1, xX6_weather_4, xX6_weather_7, xX6_weather_9, xX6_weather_10, xX6_weather_11, xX6_weather_12, xX6_weather_13, xX6_weather_16, xX6_weather_19, xX6_weather_22, xX6_weather_24, xX6_weather_25, xX6_weather_26, xX6_weather_29, xX6_weather_30, xX6_weather_31, xX6_weather_34, xX6_weather_37, xX6_weather_39, xX6_weather_40, xX6_weather_41, xX6_weather_44, xX6_weather_45, xX6_weather_46, xX6_weather_49, xX6_weather_50, xX6_weather_53, xX6_weather_54, xX6_weather_57, xX6_weather_58, xX6_weather_59, xX6_weather_60, xX6_weather_61, xX6_weather_64, xX6_weather_65, xX6_weather_68, xX6_weather_69, xX6_weather_70, Bool.false_eq_true, if_true, if_false, kl_i, kl_a, kl_s, kl_u, kl_l, okS_nil, okS_cons, cat_i, cat_a, cat_s, cat_l, Nat.reduceAdd, Nat.reduceLeDiff, Nat.reduceSub, Nat.sub_zero, Nat.sub_self, Nat.zero_add, Nat.le_refl, Nat.zero_le, List.length_cons, List.length_nil, true_and, and_true, true_or, or_true, eq_self, forall_const, true_implies, not_true_eq_false, not_false_eq_true, false_implies, implies_true, false_and, and_false, false_or, or_false, M0, e199]
  refine ⟨fun g => absurd g g0, fun _ => ?_⟩
  refine t_inI (a := 1) (b := 999999) (by decide) (by decide) ?_
  rw [if_pos hx]
  simp only [xX6_weather_0, xX6_weather_1, xX6_weather_4, xX6_weather_7, xX6_weather_9, xX6_weather_10, xX6_weather_11, xX6_weather_12, xX6_weather_13, xX6_weather_16, xX6_weather_19, xX6_weather_22, xX6_weather_24, xX6_weather_25, xX6_weather_26, xX6_weather_29, xX6_weather_30, xX6_weather_31, xX6_weather_34, xX6_weather_37, xX6_weather_39, xX6_weather_40, xX6_weather_41, xX6_weather_44, xX6_weather_45, xX6_weather_46, xX6_weather_49, xX6_weather_50, xX6_weather_53, xX6_weather_54, xX6_weather_57, xX6_weather_58, xX6_weather_59, xX6_weather_60, xX6_weather_61, xX6_weather_64, xX6_weather_65, xX6_weather_68, xX6_weather_69, xX6_weather_70, Bool.false_eq_true, if_true, if_false, kl_i, kl_a, kl_s, kl_u, kl_l, okS_nil, okS_cons, cat_i, cat_a, cat_s, cat_l, Nat.reduceAdd, Nat.reduceLeDiff, Nat.reduceSub, Nat.sub_zero, Nat.sub_self, Nat.zero_add, Nat.le_refl, Nat.zero_le, List.length_cons, List.length_nil, true_and, and_true, true_or, or_true, eq_self, forall_const, true_implies, not_true_eq_false, not_false_eq_true, false_implies, implies_true, false_and, and_false, false_or, or_false, M0, R8, A204, L204, i10, cl3, vi3, e204]
  refine ⟨fun g => absurd g hd, fun _ => ?_⟩
  refine t_remember hM (by rw [e199]; exact a3) hA ?_
  simp only [xX6_weather_0, xX6_weather_1, xX6_weather_4, xX6_weather_7, xX6_weather_9, xX6_weather_10, xX6_weather_11, xX6_weather_12, xX6_weather_13, xX6_weather_16, xX6_weather_19, xX6_weather_22, xX6_weather_24, xX6_weather_25, xX6_weather_26, xX6_weather_29, xX6_weather_30, xX6_weather_31, xX6_weather_34, xX6_weather_37, xX6_weather_39, xX6_weather_40, xX6_weather_41, xX6_weather_44, xX6_weather_45, xX6_weather_46, xX6_weather_49, xX6_weather_50, xX6_weather_53, xX6_weather_54, xX6_weather_57, xX6_weather_58, xX6_weather_59, xX6_weather_60, xX6_weather_61, xX6_weather_64, xX6_weather_65, xX6_weather_68, xX6_weather_69, xX6_weather_70, Bool.false_eq_true, if_true, if_false, kl_i, kl_a, kl_s, kl_u, kl_l, okS_nil, okS_cons, cat_i, cat_a, cat_s, cat_l, Nat.reduceAdd, Nat.reduceLeDiff, Nat.reduceSub, Nat.sub_zero, Nat.sub_self, Nat.zero_add, Nat.le_refl, Nat.zero_le, List.length_cons, List.length_nil, true_and, and_true, true_or, or_true, eq_self, forall_const, true_implies, not_true_eq_false, not_false_eq_true, false_implies, implies_true, false_and, and_false, false_or, or_false, M0, R8, eR]
  have es := setR_id (remQ (putP (keepQ m 33 X) 33 (dayQ N (getP (keepQ m 33 X) 33) (nI R))) A) 204
  rw [remQ_at (by decide) (by decide), e204] at es
  rw [← es]
  refine ⟨by decide, by decide, ?_⟩
  refine t_mGoes ⟨A204, L204⟩ (now_2 hn) h7 ?_
  exact ⟨rfl, RR_day (R := R) h h7 hX hA hn hb ht a1 a2 ha g1 (by omega) hd rfl⟩
