/-! calls, one beside the other: those that only look -/
theorem nat_of {x : Int32} {N : Nat} (hN : N < 2147483648) (h0 : ¬ x < 0) (h : x < nI N) : ∃ v : Nat, v < N ∧ x = nI v := by
  rw [Int32.lt_iff_toInt_lt, Int32.toInt_zero] at h0
  rw [Int32.lt_iff_toInt_lt, nI_toInt (by omega)] at h
  refine ⟨x.toInt.toNat, by omega, Int32.toInt_inj.mp ?_⟩
  rw [nI_toInt (by omega)]
  omega
theorem now_2 {N : Nat} {m : Mm} (hn : nowH N m (m 204)) : m 204 2 = nI N := hn.1.2.2.1.symm.trans hn.2.1
theorem p_kind {K : Cx} {σ : Sg} (hw : WF σ) (x : Int32) : PAIR K σ YX5_kind YX6_kind [.int x] := by
  intro m l h
  obtain ⟨wN, wR, wT, wA, wL, wM, wI⟩ := hw
  have hM := wM
  obtain ⟨H0, F0, F1, F2, F3, F4, F5, F6, F7, P33, P39, P45⟩ := wN
  obtain ⟨M0, R0, R1, R2, R4, R8, R10, R11, R12, R14, R20, R21, R22, A200, L200, A201, L201, A202, L202, A203, L203, A204, L204, A205, L205, A206, L206, A207, L207, A208, L208, A209, L209, A210, L210, A211, L211⟩ := wM
  obtain ⟨N, X, A, h7, hn, hb, ht, hz, hX, hA, a1, a2, a3, ha⟩ := h.2.2.2.2.1
  have h8 : m 33 8 = nI N := hn.2.1
  have h2 := now_2 hn
  refine kX5_kind ?_
  simp only [xX5_kind_0, xX5_kind_1, xX5_kind_4, xX5_kind_5, xX5_kind_8, xX5_kind_11, xX5_kind_12, xX5_kind_15, xX5_kind_18, xX5_kind_19, xX5_kind_20, xX5_kind_23, xX5_kind_25, Bool.false_eq_true, if_true, if_false, kl_i, kl_a, kl_s, kl_u, kl_l, okS_nil, okS_cons, cat_i, cat_a, cat_s, cat_l, Nat.reduceAdd, Nat.reduceLeDiff, Nat.reduceSub, Nat.sub_zero, Nat.sub_self, Nat.zero_add, Nat.le_refl, Nat.zero_le, List.length_cons, List.length_nil, true_and, and_true, true_or, or_true, eq_self, forall_const, true_implies, not_true_eq_false, not_false_eq_true, false_implies, implies_true, false_and, and_false, false_or, or_false, H0, F0, F1, F2, F3, F4, F5, F6, F7, P33.1, P39.1, P45.1]
  refine t_has P33.1 ?_
  rw [h8]
  by_cases hv : ¬ x < 0 ∧ x < nI N
  · obtain ⟨v, hlt, e⟩ := nat_of (by omega) hv.1 hv.2
    rw [if_pos hv]
    subst e
    have hcv := clN (v := v) (by omega)
    have hiv := inN (v := v) (n := 7) (by omega) (by omega)
    have hcv5 := clN (v := 5 + v) (by omega)
    have hiv5 := inN (v := 5 + v) (n := 40) (by omega) (by omega)
    obtain ⟨hO, r0, r1, r2, r3, r4, o1, o2, o3, o4, o5, l1, l2, l3, l4, l5⟩ := P33
    simp only [xX5_kind_0, xX5_kind_1, xX5_kind_4, xX5_kind_5, xX5_kind_8, xX5_kind_11, xX5_kind_12, xX5_kind_15, xX5_kind_18, xX5_kind_19, xX5_kind_20, xX5_kind_23, xX5_kind_25, Bool.false_eq_true, if_true, if_false, kl_i, kl_a, kl_s, kl_u, kl_l, okS_nil, okS_cons, cat_i, cat_a, cat_s, cat_l, Nat.reduceAdd, Nat.reduceLeDiff, Nat.reduceSub, Nat.sub_zero, Nat.sub_self, Nat.zero_add, Nat.le_refl, Nat.zero_le, List.length_cons, List.length_nil, true_and, and_true, true_or, or_true, eq_self, forall_const, true_implies, not_true_eq_false, not_false_eq_true, false_implies, implies_true, false_and, and_false, false_or, or_false, H0, F2, hO, r0, r1, r2, r3, r4, o1, o2, o3, o4, o5, l1, l2, l3, l4, l5, i10, hcv, hiv]
    refine kX6_kind ?_
    simp only [xX6_kind_0, xX6_kind_1, xX6_kind_2, xX6_kind_5, xX6_kind_8, xX6_kind_9, xX6_kind_12, xX6_kind_13, xX6_kind_14, xX6_kind_15, xX6_kind_16, xX6_kind_19, xX6_kind_21, Bool.false_eq_true, if_true, if_false, kl_i, kl_a, kl_s, kl_u, kl_l, okS_nil, okS_cons, cat_i, cat_a, cat_s, cat_l, Nat.reduceAdd, Nat.reduceLeDiff, Nat.reduceSub, Nat.sub_zero, Nat.sub_self, Nat.zero_add, Nat.le_refl, Nat.zero_le, List.length_cons, List.length_nil, true_and, and_true, true_or, or_true, eq_self, forall_const, true_implies, not_true_eq_false, not_false_eq_true, false_implies, implies_true, false_and, and_false, false_or, or_false, M0]
    refine t_isVillage hM h2 h7 ?_
    rw [if_pos hv]
    simp only [xX6_kind_0, xX6_kind_1, xX6_kind_2, xX6_kind_5, xX6_kind_8, xX6_kind_9, xX6_kind_12, xX6_kind_13, xX6_kind_14, xX6_kind_15, xX6_kind_16, xX6_kind_19, xX6_kind_21, Bool.false_eq_true, if_true, if_false, kl_i, kl_a, kl_s, kl_u, kl_l, okS_nil, okS_cons, cat_i, cat_a, cat_s, cat_l, Nat.reduceAdd, Nat.reduceLeDiff, Nat.reduceSub, Nat.sub_zero, Nat.sub_self, Nat.zero_add, Nat.le_refl, Nat.zero_le, List.length_cons, List.length_nil, true_and, and_true, true_or, or_true, eq_self, forall_const, true_implies, not_true_eq_false, not_false_eq_true, false_implies, implies_true, false_and, and_false, false_or, or_false, M0, R8, A204, L204, i10, k5, hcv5, hiv5]
    exact ⟨(hn.1.2.2.2.2.2.1 v hlt).1.symm, h⟩
  · rw [if_neg hv]
    simp only [xX5_kind_0, xX5_kind_1, xX5_kind_4, xX5_kind_5, xX5_kind_8, xX5_kind_11, xX5_kind_12, xX5_kind_15, xX5_kind_18, xX5_kind_19, xX5_kind_20, xX5_kind_23, xX5_kind_25, Bool.false_eq_true, if_true, if_false, kl_i, kl_a, kl_s, kl_u, kl_l, okS_nil, okS_cons, cat_i, cat_a, cat_s, cat_l, Nat.reduceAdd, Nat.reduceLeDiff, Nat.reduceSub, Nat.sub_zero, Nat.sub_self, Nat.zero_add, Nat.le_refl, Nat.zero_le, List.length_cons, List.length_nil, true_and, and_true, true_or, or_true, eq_self, forall_const, true_implies, not_true_eq_false, not_false_eq_true, false_implies, implies_true, false_and, and_false, false_or, or_false, H0, F0, F1, F2, F3, F4, F5, F6, F7, P33.1, P39.1, P45.1]
    refine kX6_kind ?_
    simp only [xX6_kind_0, xX6_kind_1, xX6_kind_2, xX6_kind_5, xX6_kind_8, xX6_kind_9, xX6_kind_12, xX6_kind_13, xX6_kind_14, xX6_kind_15, xX6_kind_16, xX6_kind_19, xX6_kind_21, Bool.false_eq_true, if_true, if_false, kl_i, kl_a, kl_s, kl_u, kl_l, okS_nil, okS_cons, cat_i, cat_a, cat_s, cat_l, Nat.reduceAdd, Nat.reduceLeDiff, Nat.reduceSub, Nat.sub_zero, Nat.sub_self, Nat.zero_add, Nat.le_refl, Nat.zero_le, List.length_cons, List.length_nil, true_and, and_true, true_or, or_true, eq_self, forall_const, true_implies, not_true_eq_false, not_false_eq_true, false_implies, implies_true, false_and, and_false, false_or, or_false, M0]
    refine t_isVillage hM h2 h7 ?_
    rw [if_neg hv]
    simp only [xX6_kind_0, xX6_kind_1, xX6_kind_2, xX6_kind_5, xX6_kind_8, xX6_kind_9, xX6_kind_12, xX6_kind_13, xX6_kind_14, xX6_kind_15, xX6_kind_16, xX6_kind_19, xX6_kind_21, Bool.false_eq_true, if_true, if_false, kl_i, kl_a, kl_s, kl_u, kl_l, okS_nil, okS_cons, cat_i, cat_a, cat_s, cat_l, Nat.reduceAdd, Nat.reduceLeDiff, Nat.reduceSub, Nat.sub_zero, Nat.sub_self, Nat.zero_add, Nat.le_refl, Nat.zero_le, List.length_cons, List.length_nil, true_and, and_true, true_or, or_true, eq_self, forall_const, true_implies, not_true_eq_false, not_false_eq_true, false_implies, implies_true, false_and, and_false, false_or, or_false, M0]
    exact h
theorem gd_x {g v : Int32} : (g >>> (v &&& 31)) &&& 1 = if gd g v then 1 else 0 := by
  by_cases h : gd g v = true
  · rw [if_pos h]; exact of_decide_eq_true h
  · rw [if_neg h]
    have h2 : ¬ (g >>> (v &&& 31)) &&& 1 = 1 := fun e => h (decide_eq_true e)
    have h3 : ∀ y : Int32, y &&& 1 = 0 ∨ y &&& 1 = 1 := fun y => by
      have e1 : (y &&& 1).toBitVec = y.toBitVec &&& 1#32 := Int32.toBitVec_and ..
      have e2 : y.toBitVec &&& 1#32 = 0#32 ∨ y.toBitVec &&& 1#32 = 1#32 := by
        have := Nat.and_one_is_mod y.toBitVec.toNat
        have hlt : y.toBitVec.toNat % 2 < 2 := Nat.mod_lt _ (by omega)
        have ht : (y.toBitVec &&& 1#32).toNat = y.toBitVec.toNat % 2 := by rw [BitVec.toNat_and]; exact this
        have hc : y.toBitVec.toNat % 2 = 0 ∨ y.toBitVec.toNat % 2 = 1 := by omega
        rcases hc with g | g
        · left; apply BitVec.eq_of_toNat_eq; rw [ht, g]; rfl
        · right; apply BitVec.eq_of_toNat_eq; rw [ht, g]; rfl
      rcases e2 with g | g
      · left; apply Int32.toBitVec_inj.mp; rw [e1, g]; rfl
      · right; apply Int32.toBitVec_inj.mp; rw [e1, g]; rfl
    exact (h3 _).resolve_right h2
theorem i6 (x : Int32) : (¬ x < 0 ∧ ¬ 5 < x) = (x = 0 ∨ x = 1 ∨ x = 2 ∨ x = 3 ∨ x = 4 ∨ x = 5) := by
  refine propext ⟨fun h => ?_, fun h => ?_⟩
  · have h6 : x < nI 6 := by
      have := h.2
      rw [Int32.lt_iff_toInt_lt] at this ⊢
      rw [nI_toInt (by omega)]
      have e : (5 : Int32).toInt = 5 := by decide
      omega
    obtain ⟨v, hv, e⟩ := nat_of (by omega) h.1 h6
    have : v = 0 ∨ v = 1 ∨ v = 2 ∨ v = 3 ∨ v = 4 ∨ v = 5 := by omega
    rcases this with g | g | g | g | g | g <;> subst g <;> subst e <;> decide
  · rcases h with g | g | g | g | g | g <;> subst g <;> decide
theorem p_village {K : Cx} {σ : Sg} (hw : WF σ) (x y : Int32) : PAIR K σ YX5_village YX6_village_ [.int x, .int y] := by
  intro m l h
  obtain ⟨wN, wR, wT, wA, wL, wM, wI⟩ := hw
  have hM := wM
  obtain ⟨H0, F0, F1, F2, F3, F4, F5, F6, F7, P33, P39, P45⟩ := wN
  obtain ⟨M0, R0, R1, R2, R4, R8, R10, R11, R12, R14, R20, R21, R22, A200, L200, A201, L201, A202, L202, A203, L203, A204, L204, A205, L205, A206, L206, A207, L207, A208, L208, A209, L209, A210, L210, A211, L211⟩ := wM
  obtain ⟨N, X, A, h7, hn, hb, ht, hz, hX, hA, a1, a2, a3, ha⟩ := h.2.2.2.2.1
  have h8 : m 33 8 = nI N := hn.2.1
  have h2 := now_2 hn
  refine kX5_village ?_
  simp only [xX5_village_0, xX5_village_1, xX5_village_4, xX5_village_5, xX5_village_8, xX5_village_11, xX5_village_13, xX5_village_14, xX5_village_15, xX5_village_52, xX5_village_53, xX5_village_56, xX5_village_59, xX5_village_60, xX5_village_61, xX5_village_62, xX5_village_63, xX5_village_66, xX5_village_69, xX5_village_70, xX5_village_71, xX5_village_72, xX5_village_73, xX5_village_76, xX5_village_79, xX5_village_80, xX5_village_81, xX5_village_82, xX5_village_83, xX5_village_86, xX5_village_87, xX5_village_90, xX5_village_93, xX5_village_94, xX5_village_97, xX5_village_98, xX5_village_99, xX5_village_100, xX5_village_103, xX5_village_106, xX5_village_107, xX5_village_108, xX5_village_109, xX5_village_110, xX5_village_113, xX5_village_114, xX5_village_117, xX5_village_118, xX5_village_120, Bool.false_eq_true, if_true, if_false, kl_i, kl_a, kl_s, kl_u, kl_l, okS_nil, okS_cons, cat_i, cat_a, cat_s, cat_l, Nat.reduceAdd, Nat.reduceLeDiff, Nat.reduceSub, Nat.sub_zero, Nat.sub_self, Nat.zero_add, Nat.le_refl, Nat.zero_le, List.length_cons, List.length_nil, true_and, and_true, true_or, or_true, eq_self, forall_const, true_implies, not_true_eq_false, not_false_eq_true, false_implies, implies_true, false_and, and_false, false_or, or_false, H0, F0, F1, F2, F3, F4, F5, F6, F7, P33.1, P39.1, P45.1]
  refine t_has P33.1 ?_
  rw [h8]
  by_cases hv : ¬ x < 0 ∧ x < nI N
  · obtain ⟨v, hlt, e⟩ := nat_of (by omega) hv.1 hv.2
    rw [if_pos hv]
    subst e
    have hcv := clN (v := v) (by omega)
    have hiv := inN (v := v) (n := 7) (by omega) (by omega)
    have hP := P33
    obtain ⟨hO, r0, r1, r2, r3, r4, o1, o2, o3, o4, o5, l1, l2, l3, l4, l5⟩ := P33
    obtain ⟨g1, g2, g3, g4⟩ := hn.1.2.2.2.2.2.1 v hlt
    have g5 := hn.1.2.2.2.2.2.2 v hlt trivial
    have hg := hn.1.2.2.2.2.1
    have hwt := want_eq (v := v) hn.1.1 g1
    have c12 := clN (v := 12 + v) (by omega)
    have v12 := inN (v := 12 + v) (n := 40) (by omega) (by omega)
    have c19 := clN (v := 19 + v) (by omega)
    have v19 := inN (v := 19 + v) (n := 40) (by omega) (by omega)
    have c26 := clN (v := 26 + v) (by omega)
    have v26 := inN (v := 26 + v) (n := 40) (by omega) (by omega)
    have c33 := clN (v := 33 + v) (by omega)
    have v33 := inN (v := 33 + v) (n := 40) (by omega) (by omega)
    have mod : ∀ (r : Int32), ((¬ y < 0 ∧ ¬ 5 < y) → (y = 0 → m 204 (26 + v) = r) ∧ (y = 1 → m 204 (12 + v) = r) ∧ (y = 2 → m 204 (19 + v) = r) ∧ (y = 3 → (if gd (m 204 4) (nI v) then (1 : Int32) else 0) = r) ∧ (y = 4 → m 204 (33 + v) = r) ∧ (y = 5 → wnM (m 204) v = r)) → (¬ (¬ y < 0 ∧ ¬ 5 < y) → r = -1000001) →
        CT K 12 YX6_village_ [.ref 199, .int (nI v), .int y] σ m l (fun r' σ2 m2 l2 => σ2 = σ ∧ r' = r ∧ RR m2) := by
      intro r hy hbad
      refine kX6_village_ ?_
      simp only [xX6_village__0, xX6_village__1, xX6_village__2, xX6_village__5, xX6_village__8, xX6_village__9, xX6_village__10, xX6_village__11, xX6_village__14, xX6_village__17, xX6_village__20, xX6_village__22, xX6_village__23, xX6_village__24, xX6_village__60, xX6_village__61, xX6_village__64, xX6_village__66, xX6_village__67, xX6_village__68, xX6_village__69, xX6_village__70, xX6_village__71, xX6_village__74, xX6_village__76, xX6_village__77, xX6_village__78, xX6_village__79, xX6_village__80, xX6_village__81, xX6_village__84, xX6_village__86, xX6_village__87, xX6_village__88, xX6_village__89, xX6_village__90, xX6_village__91, xX6_village__94, xX6_village__95, xX6_village__96, xX6_village__97, xX6_village__98, xX6_village__99, xX6_village__100, xX6_village__101, xX6_village__102, xX6_village__105, xX6_village__107, xX6_village__108, xX6_village__109, xX6_village__110, xX6_village__111, xX6_village__112, xX6_village__115, xX6_village__116, xX6_village__119, Bool.false_eq_true, if_true, if_false, kl_i, kl_a, kl_s, kl_u, kl_l, okS_nil, okS_cons, cat_i, cat_a, cat_s, cat_l, Nat.reduceAdd, Nat.reduceLeDiff, Nat.reduceSub, Nat.sub_zero, Nat.sub_self, Nat.zero_add, Nat.le_refl, Nat.zero_le, List.length_cons, List.length_nil, true_and, and_true, true_or, or_true, eq_self, forall_const, true_implies, not_true_eq_false, not_false_eq_true, false_implies, implies_true, false_and, and_false, false_or, or_false, M0]
      refine t_isVillage hM h2 h7 ?_
      rw [if_pos hv]
      simp only [xX6_village__0, xX6_village__1, xX6_village__2, xX6_village__5, xX6_village__8, xX6_village__9, xX6_village__10, xX6_village__11, xX6_village__14, xX6_village__17, xX6_village__20, xX6_village__22, xX6_village__23, xX6_village__24, xX6_village__60, xX6_village__61, xX6_village__64, xX6_village__66, xX6_village__67, xX6_village__68, xX6_village__69, xX6_village__70, xX6_village__71, xX6_village__74, xX6_village__76, xX6_village__77, xX6_village__78, xX6_village__79, xX6_village__80, xX6_village__81, xX6_village__84, xX6_village__86, xX6_village__87, xX6_village__88, xX6_village__89, xX6_village__90, xX6_village__91, xX6_village__94, xX6_village__95, xX6_village__96, xX6_village__97, xX6_village__98, xX6_village__99, xX6_village__100, xX6_village__101, xX6_village__102, xX6_village__105, xX6_village__107, xX6_village__108, xX6_village__109, xX6_village__110, xX6_village__111, xX6_village__112, xX6_village__115, xX6_village__116, xX6_village__119, Bool.false_eq_true, if_true, if_false, kl_i, kl_a, kl_s, kl_u, kl_l, okS_nil, okS_cons, cat_i, cat_a, cat_s, cat_l, Nat.reduceAdd, Nat.reduceLeDiff, Nat.reduceSub, Nat.sub_zero, Nat.sub_self, Nat.zero_add, Nat.le_refl, Nat.zero_le, List.length_cons, List.length_nil, true_and, and_true, true_or, or_true, eq_self, forall_const, true_implies, not_true_eq_false, not_false_eq_true, false_implies, implies_true, false_and, and_false, false_or, or_false, M0, i10]
      refine t_inI (a := 0) (b := 5) (by decide) (by decide) ?_
      by_cases hr : ¬ y < 0 ∧ ¬ 5 < y
      · obtain ⟨q0, q1, q2, q3, q4, q5⟩ := hy hr
        rw [if_pos hr]
        simp only [xX6_village__0, xX6_village__1, xX6_village__2, xX6_village__5, xX6_village__8, xX6_village__9, xX6_village__10, xX6_village__11, xX6_village__14, xX6_village__17, xX6_village__20, xX6_village__22, xX6_village__23, xX6_village__24, xX6_village__60, xX6_village__61, xX6_village__64, xX6_village__66, xX6_village__67, xX6_village__68, xX6_village__69, xX6_village__70, xX6_village__71, xX6_village__74, xX6_village__76, xX6_village__77, xX6_village__78, xX6_village__79, xX6_village__80, xX6_village__81, xX6_village__84, xX6_village__86, xX6_village__87, xX6_village__88, xX6_village__89, xX6_village__90, xX6_village__91, xX6_village__94, xX6_village__95, xX6_village__96, xX6_village__97, xX6_village__98, xX6_village__99, xX6_village__100, xX6_village__101, xX6_village__102, xX6_village__105, xX6_village__107, xX6_village__108, xX6_village__109, xX6_village__110, xX6_village__111, xX6_village__112, xX6_village__115, xX6_village__116, xX6_village__119, Bool.false_eq_true, if_true, if_false, kl_i, kl_a, kl_s, kl_u, kl_l, okS_nil, okS_cons, cat_i, cat_a, cat_s, cat_l, Nat.reduceAdd, Nat.reduceLeDiff, Nat.reduceSub, Nat.sub_zero, Nat.sub_self, Nat.zero_add, Nat.le_refl, Nat.zero_le, List.length_cons, List.length_nil, true_and, and_true, true_or, or_true, eq_self, forall_const, true_implies, not_true_eq_false, not_false_eq_true, false_implies, implies_true, false_and, and_false, false_or, or_false, M0, R8, A204, L204, i10, k26, k12, k19, k33, c12, v12, c19, v19, c26, v26, c33, v33, cl4, vi4, gd_x]
        refine ⟨fun e => ⟨q0 e, h⟩, fun n0 => ⟨fun e => ⟨q1 e, h⟩, fun n1 => ⟨fun e => ⟨q2 e, h⟩, fun n2 => ⟨fun e => ⟨q3 e, h⟩, fun n3 => ⟨fun e => ⟨q4 e, h⟩, fun n4 => ?_⟩⟩⟩⟩⟩
        have e5 : y = 5 := by
          rw [i6] at hr
          rcases hr with g | g | g | g | g | g
          · exact absurd g n0
          · exact absurd g n1
          · exact absurd g n2
          · exact absurd g n3
          · exact absurd g n4
          · exact g
        refine t_mWants ⟨A204, L204⟩ (by omega) ?_
        exact ⟨rfl, q5 e5, h⟩
      · rw [if_neg hr]
        simp only [xX6_village__0, xX6_village__1, xX6_village__2, xX6_village__5, xX6_village__8, xX6_village__9, xX6_village__10, xX6_village__11, xX6_village__14, xX6_village__17, xX6_village__20, xX6_village__22, xX6_village__23, xX6_village__24, xX6_village__60, xX6_village__61, xX6_village__64, xX6_village__66, xX6_village__67, xX6_village__68, xX6_village__69, xX6_village__70, xX6_village__71, xX6_village__74, xX6_village__76, xX6_village__77, xX6_village__78, xX6_village__79, xX6_village__80, xX6_village__81, xX6_village__84, xX6_village__86, xX6_village__87, xX6_village__88, xX6_village__89, xX6_village__90, xX6_village__91, xX6_village__94, xX6_village__95, xX6_village__96, xX6_village__97, xX6_village__98, xX6_village__99, xX6_village__100, xX6_village__101, xX6_village__102, xX6_village__105, xX6_village__107, xX6_village__108, xX6_village__109, xX6_village__110, xX6_village__111, xX6_village__112, xX6_village__115, xX6_village__116, xX6_village__119, Bool.false_eq_true, if_true, if_false, kl_i, kl_a, kl_s, kl_u, kl_l, okS_nil, okS_cons, cat_i, cat_a, cat_s, cat_l, Nat.reduceAdd, Nat.reduceLeDiff, Nat.reduceSub, Nat.sub_zero, Nat.sub_self, Nat.zero_add, Nat.le_refl, Nat.zero_le, List.length_cons, List.length_nil, true_and, and_true, true_or, or_true, eq_self, forall_const, true_implies, not_true_eq_false, not_false_eq_true, false_implies, implies_true, false_and, and_false, false_or, or_false, M0]
        exact ⟨(hbad hr).symm, h⟩
    simp only [xX5_village_0, xX5_village_1, xX5_village_4, xX5_village_5, xX5_village_8, xX5_village_11, xX5_village_13, xX5_village_14, xX5_village_15, xX5_village_52, xX5_village_53, xX5_village_56, xX5_village_59, xX5_village_60, xX5_village_61, xX5_village_62, xX5_village_63, xX5_village_66, xX5_village_69, xX5_village_70, xX5_village_71, xX5_village_72, xX5_village_73, xX5_village_76, xX5_village_79, xX5_village_80, xX5_village_81, xX5_village_82, xX5_village_83, xX5_village_86, xX5_village_87, xX5_village_90, xX5_village_93, xX5_village_94, xX5_village_97, xX5_village_98, xX5_village_99, xX5_village_100, xX5_village_103, xX5_village_106, xX5_village_107, xX5_village_108, xX5_village_109, xX5_village_110, xX5_village_113, xX5_village_114, xX5_village_117, xX5_village_118, xX5_village_120, Bool.false_eq_true, if_true, if_false, kl_i, kl_a, kl_s, kl_u, kl_l, okS_nil, okS_cons, cat_i, cat_a, cat_s, cat_l, Nat.reduceAdd, Nat.reduceLeDiff, Nat.reduceSub, Nat.sub_zero, Nat.sub_self, Nat.zero_add, Nat.le_refl, Nat.zero_le, List.length_cons, List.length_nil, true_and, and_true, true_or, or_true, eq_self, forall_const, true_implies, not_true_eq_false, not_false_eq_true, false_implies, implies_true, false_and, and_false, false_or, or_false, H0, F2, hO, r0, r1, r2, r3, r4, o1, o2, o3, o4, o5, l1, l2, l3, l4, l5, i10, hcv, hiv]
    refine ⟨fun e => ?_, fun n0 => ⟨fun e => ?_, fun n1 => ⟨fun e => ?_, fun n2 => ⟨fun e => ?_, fun n3 => ⟨fun e => ?_, fun n4 => ⟨fun e => ?_, fun n5 => ?_⟩⟩⟩⟩⟩⟩
    · refine mod _ (fun _ => ⟨fun _ => g4.symm, fun g => ?_, fun g => ?_, fun g => ?_, fun g => ?_, fun g => ?_⟩) (fun g => absurd (by rw [e]; decide) g) <;> (rw [e] at g; exact absurd g (by decide))
    · refine mod _ (fun _ => ⟨fun g => ?_, fun _ => g2.symm, fun g => ?_, fun g => ?_, fun g => ?_, fun g => ?_⟩) (fun g => absurd (by rw [e]; decide) g) <;> (rw [e] at g; exact absurd g (by decide))
    · refine mod _ (fun _ => ⟨fun g => ?_, fun g => ?_, fun _ => g3.symm, fun g => ?_, fun g => ?_, fun g => ?_⟩) (fun g => absurd (by rw [e]; decide) g) <;> (rw [e] at g; exact absurd g (by decide))
    · refine t_isGuarding hO ?_
      have hg' : m 33 10 = m 204 4 := hg
      have md := mod (if gd (m 204 4) (nI v) then 1 else 0) (fun _ => ⟨fun g => ?_, fun g => ?_, fun g => ?_, fun _ => rfl, fun g => ?_, fun g => ?_⟩) (fun g => absurd (by rw [e]; decide) g)
      · rw [hg']
        cases hgd : gd (m 204 4) (nI v)
        · rw [hgd] at md
          simp only [xX5_village_0, xX5_village_1, xX5_village_4, xX5_village_5, xX5_village_8, xX5_village_11, xX5_village_13, xX5_village_14, xX5_village_15, xX5_village_52, xX5_village_53, xX5_village_56, xX5_village_59, xX5_village_60, xX5_village_61, xX5_village_62, xX5_village_63, xX5_village_66, xX5_village_69, xX5_village_70, xX5_village_71, xX5_village_72, xX5_village_73, xX5_village_76, xX5_village_79, xX5_village_80, xX5_village_81, xX5_village_82, xX5_village_83, xX5_village_86, xX5_village_87, xX5_village_90, xX5_village_93, xX5_village_94, xX5_village_97, xX5_village_98, xX5_village_99, xX5_village_100, xX5_village_103, xX5_village_106, xX5_village_107, xX5_village_108, xX5_village_109, xX5_village_110, xX5_village_113, xX5_village_114, xX5_village_117, xX5_village_118, xX5_village_120, Bool.false_eq_true, if_true, if_false, kl_i, kl_a, kl_s, kl_u, kl_l, okS_nil, okS_cons, cat_i, cat_a, cat_s, cat_l, Nat.reduceAdd, Nat.reduceLeDiff, Nat.reduceSub, Nat.sub_zero, Nat.sub_self, Nat.zero_add, Nat.le_refl, Nat.zero_le, List.length_cons, List.length_nil, true_and, and_true, true_or, or_true, eq_self, forall_const, true_implies, not_true_eq_false, not_false_eq_true, false_implies, implies_true, false_and, and_false, false_or, or_false] at md ⊢
          exact md
        · rw [hgd] at md
          simp only [xX5_village_0, xX5_village_1, xX5_village_4, xX5_village_5, xX5_village_8, xX5_village_11, xX5_village_13, xX5_village_14, xX5_village_15, xX5_village_52, xX5_village_53, xX5_village_56, xX5_village_59, xX5_village_60, xX5_village_61, xX5_village_62, xX5_village_63, xX5_village_66, xX5_village_69, xX5_village_70, xX5_village_71, xX5_village_72, xX5_village_73, xX5_village_76, xX5_village_79, xX5_village_80, xX5_village_81, xX5_village_82, xX5_village_83, xX5_village_86, xX5_village_87, xX5_village_90, xX5_village_93, xX5_village_94, xX5_village_97, xX5_village_98, xX5_village_99, xX5_village_100, xX5_village_103, xX5_village_106, xX5_village_107, xX5_village_108, xX5_village_109, xX5_village_110, xX5_village_113, xX5_village_114, xX5_village_117, xX5_village_118, xX5_village_120, Bool.false_eq_true, if_true, if_false, kl_i, kl_a, kl_s, kl_u, kl_l, okS_nil, okS_cons, cat_i, cat_a, cat_s, cat_l, Nat.reduceAdd, Nat.reduceLeDiff, Nat.reduceSub, Nat.sub_zero, Nat.sub_self, Nat.zero_add, Nat.le_refl, Nat.zero_le, List.length_cons, List.length_nil, true_and, and_true, true_or, or_true, eq_self, forall_const, true_implies, not_true_eq_false, not_false_eq_true, false_implies, implies_true, false_and, and_false, false_or, or_false, i10] at md ⊢
          exact md
      all_goals (rw [e] at g; exact absurd g (by decide))
    · refine mod _ (fun _ => ⟨fun g => ?_, fun g => ?_, fun g => ?_, fun g => ?_, fun _ => g5.symm, fun g => ?_⟩) (fun g => absurd (by rw [e]; decide) g) <;> (rw [e] at g; exact absurd g (by decide))
    · refine t_wants hP hiv ?_
      rw [hcv]
      have hwt' : wantK (m (33 + 1) v) (m 33 6) = wnM (m 204) v := hwt
      rw [hwt']
      refine ⟨rfl, mod _ (fun _ => ⟨fun g => ?_, fun g => ?_, fun g => ?_, fun g => ?_, fun g => ?_, fun _ => rfl⟩) (fun g => absurd (by rw [e]; decide) g)⟩ <;> (rw [e] at g; exact absurd g (by decide))
    · refine mod _ (fun g => ?_) (fun _ => rfl)
      rw [i6] at g
      rcases g with g | g | g | g | g | g
      · exact absurd g n0
      · exact absurd g n1
      · exact absurd g n2
      · exact absurd g n3
      · exact absurd g n4
      · exact absurd g n5
  · rw [if_neg hv]
    simp only [xX5_village_0, xX5_village_1, xX5_village_4, xX5_village_5, xX5_village_8, xX5_village_11, xX5_village_13, xX5_village_14, xX5_village_15, xX5_village_52, xX5_village_53, xX5_village_56, xX5_village_59, xX5_village_60, xX5_village_61, xX5_village_62, xX5_village_63, xX5_village_66, xX5_village_69, xX5_village_70, xX5_village_71, xX5_village_72, xX5_village_73, xX5_village_76, xX5_village_79, xX5_village_80, xX5_village_81, xX5_village_82, xX5_village_83, xX5_village_86, xX5_village_87, xX5_village_90, xX5_village_93, xX5_village_94, xX5_village_97, xX5_village_98, xX5_village_99, xX5_village_100, xX5_village_103, xX5_village_106, xX5_village_107, xX5_village_108, xX5_village_109, xX5_village_110, xX5_village_113, xX5_village_114, xX5_village_117, xX5_village_118, xX5_village_120, Bool.false_eq_true, if_true, if_false, kl_i, kl_a, kl_s, kl_u, kl_l, okS_nil, okS_cons, cat_i, cat_a, cat_s, cat_l, Nat.reduceAdd, Nat.reduceLeDiff, Nat.reduceSub, Nat.sub_zero, Nat.sub_self, Nat.zero_add, Nat.le_refl, Nat.zero_le, List.length_cons, List.length_nil, true_and, and_true, true_or, or_true, eq_self, forall_const, true_implies, not_true_eq_false, not_false_eq_true, false_implies, implies_true, false_and, and_false, false_or, or_false, H0, F0, F1, F2, F3, F4, F5, F6, F7, P33.1, P39.1, P45.1]
    refine kX6_village_ ?_
    simp only [xX6_village__0, xX6_village__1, xX6_village__2, xX6_village__5, xX6_village__8, xX6_village__9, xX6_village__10, xX6_village__11, xX6_village__14, xX6_village__17, xX6_village__20, xX6_village__22, xX6_village__23, xX6_village__24, xX6_village__60, xX6_village__61, xX6_village__64, xX6_village__66, xX6_village__67, xX6_village__68, xX6_village__69, xX6_village__70, xX6_village__71, xX6_village__74, xX6_village__76, xX6_village__77, xX6_village__78, xX6_village__79, xX6_village__80, xX6_village__81, xX6_village__84, xX6_village__86, xX6_village__87, xX6_village__88, xX6_village__89, xX6_village__90, xX6_village__91, xX6_village__94, xX6_village__95, xX6_village__96, xX6_village__97, xX6_village__98, xX6_village__99, xX6_village__100, xX6_village__101, xX6_village__102, xX6_village__105, xX6_village__107, xX6_village__108, xX6_village__109, xX6_village__110, xX6_village__111, xX6_village__112, xX6_village__115, xX6_village__116, xX6_village__119, Bool.false_eq_true, if_true, if_false, kl_i, kl_a, kl_s, kl_u, kl_l, okS_nil, okS_cons, cat_i, cat_a, cat_s, cat_l, Nat.reduceAdd, Nat.reduceLeDiff, Nat.reduceSub, Nat.sub_zero, Nat.sub_self, Nat.zero_add, Nat.le_refl, Nat.zero_le, List.length_cons, List.length_nil, true_and, and_true, true_or, or_true, eq_self, forall_const, true_implies, not_true_eq_false, not_false_eq_true, false_implies, implies_true, false_and, and_false, false_or, or_false, M0]
    refine t_isVillage hM h2 h7 ?_
    rw [if_neg hv]
    simp only [xX6_village__0, xX6_village__1, xX6_village__2, xX6_village__5, xX6_village__8, xX6_village__9, xX6_village__10, xX6_village__11, xX6_village__14, xX6_village__17, xX6_village__20, xX6_village__22, xX6_village__23, xX6_village__24, xX6_village__60, xX6_village__61, xX6_village__64, xX6_village__66, xX6_village__67, xX6_village__68, xX6_village__69, xX6_village__70, xX6_village__71, xX6_village__74, xX6_village__76, xX6_village__77, xX6_village__78, xX6_village__79, xX6_village__80, xX6_village__81, xX6_village__84, xX6_village__86, xX6_village__87, xX6_village__88, xX6_village__89, xX6_village__90, xX6_village__91, xX6_village__94, xX6_village__95, xX6_village__96, xX6_village__97, xX6_village__98, xX6_village__99, xX6_village__100, xX6_village__101, xX6_village__102, xX6_village__105, xX6_village__107, xX6_village__108, xX6_village__109, xX6_village__110, xX6_village__111, xX6_village__112, xX6_village__115, xX6_village__116, xX6_village__119, Bool.false_eq_true, if_true, if_false, kl_i, kl_a, kl_s, kl_u, kl_l, okS_nil, okS_cons, cat_i, cat_a, cat_s, cat_l, Nat.reduceAdd, Nat.reduceLeDiff, Nat.reduceSub, Nat.sub_zero, Nat.sub_self, Nat.zero_add, Nat.le_refl, Nat.zero_le, List.length_cons, List.length_nil, true_and, and_true, true_or, or_true, eq_self, forall_const, true_implies, not_true_eq_false, not_false_eq_true, false_implies, implies_true, false_and, and_false, false_or, or_false, M0]
    exact h
