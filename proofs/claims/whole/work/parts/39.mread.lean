/-! reading, the model's side -/
/-- the model at a token: at, begin, token of the token from a; its value in l -/
def MS (m : Mm) (f : Nat → Int32) (fl : Int32) (B : Nat → Nat) (T a : Nat) : Mm := setR m 199 (mp f fl (nI (lxE B T a)) (nI (lxS B T a)) (nI (lxT B T a)))
theorem mp_f (f : Nat → Int32) (fl a b t fl' a' b' t' : Int32) : mp (mp f fl a b t) fl' a' b' t' = mp f fl' a' b' t' := by
  funext k
  unfold mp
  by_cases h2 : k = 6
  · rw [if_pos h2, if_pos h2]
  by_cases h3 : k = 15
  · rw [if_neg h2, if_pos h3, if_neg h2, if_pos h3]
  by_cases h4 : k = 16
  · rw [if_neg h2, if_neg h3, if_pos h4, if_neg h2, if_neg h3, if_pos h4]
  by_cases h5 : k = 17
  · rw [if_neg h2, if_neg h3, if_neg h4, if_pos h5, if_neg h2, if_neg h3, if_neg h4, if_pos h5]
  · simp only [if_neg h2, if_neg h3, if_neg h4, if_neg h5]
theorem t_mustBe1 {K : Cx} {d : Nat} {σ : Sg} {m : Mm} {l : Ml} {f : Nat → Int32} {fl a b t : Int32} {Q : Rt} (h0 : isO σ 199 6) (hQ : Q 1 σ (setR m 199 (mp f fl a b t)) l) : CT K (d + 1) YX6_mustBe [.ref 199, .int 1] σ (setR m 199 (mp f fl a b t)) l Q := by
  refine kX6_mustBe ?_
  simp only [xX6_mustBe_0, xX6_mustBe_1, xX6_mustBe_2, xX6_mustBe_5, xX6_mustBe_6, xX6_mustBe_9, xX6_mustBe_12, xX6_mustBe_13, xX6_mustBe_16, xX6_mustBe_17, Bool.false_eq_true, if_true, if_false, kl_i, kl_a, kl_s, kl_u, kl_l, okS_nil, okS_cons, cat_i, cat_a, cat_s, cat_l, Nat.reduceAdd, Nat.reduceLeDiff, Nat.reduceSub, Nat.sub_zero, Nat.sub_self, Nat.zero_add, Nat.le_refl, Nat.zero_le, List.length_cons, List.length_nil, true_and, and_true, true_or, or_true, eq_self, forall_const, true_implies, not_true_eq_false, not_false_eq_true, false_implies, implies_true, false_and, and_false, false_or, or_false, s199, s199_203, s199_209, upM_setR, setR_setR, mp_6, mp_15, mp_16, mp_17, mp_5, mp_19, um_6, um_15, um_16, um_17, uL_r, uL_u, h0, i10]
  exact hQ
theorem t_mustBe0 {K : Cx} {d : Nat} {σ : Sg} {m : Mm} {l : Ml} {f : Nat → Int32} {fl a b t : Int32} {Q : Rt} (h0 : isO σ 199 6) (hQ : Q 0 σ (setR m 199 (mp f 1 a b t)) l) : CT K (d + 1) YX6_mustBe [.ref 199, .int 0] σ (setR m 199 (mp f fl a b t)) l Q := by
  refine kX6_mustBe ?_
  simp only [xX6_mustBe_0, xX6_mustBe_1, xX6_mustBe_2, xX6_mustBe_5, xX6_mustBe_6, xX6_mustBe_9, xX6_mustBe_12, xX6_mustBe_13, xX6_mustBe_16, xX6_mustBe_17, Bool.false_eq_true, if_true, if_false, kl_i, kl_a, kl_s, kl_u, kl_l, okS_nil, okS_cons, cat_i, cat_a, cat_s, cat_l, Nat.reduceAdd, Nat.reduceLeDiff, Nat.reduceSub, Nat.sub_zero, Nat.sub_self, Nat.zero_add, Nat.le_refl, Nat.zero_le, List.length_cons, List.length_nil, true_and, and_true, true_or, or_true, eq_self, forall_const, true_implies, not_true_eq_false, not_false_eq_true, false_implies, implies_true, false_and, and_false, false_or, or_false, s199, s199_203, s199_209, upM_setR, setR_setR, mp_6, mp_15, mp_16, mp_17, mp_5, mp_19, um_6, um_15, um_16, um_17, uL_r, uL_u, h0]
  exact hQ
theorem n3 {B : Nat → Nat} {T a : Nat} : lxT B T a < 5 := by
  have hk : lxK B T a < 5 := by unfold lxK; split <;> (try unfold srN) <;> (try split) <;> (try split) <;> (try split) <;> omega
  unfold lxT
  split <;> omega
theorem nT (B : Nat → Nat) (T a : Nat) {k : Nat} (h : k < 5) : (nI (lxT B T a) = nI k) = (lxT B T a = k) := eqN (by have := @n3 B T a; omega) (by omega)
theorem b01 (c : Prop) [Decidable c] : ((if c then (1 : Int32) else 0) = 1) = c := by
  by_cases h : c
  · rw [if_pos h]; exact propext ⟨fun _ => h, fun _ => rfl⟩
  · rw [if_neg h]; exact propext ⟨fun g => absurd g (by decide), fun g => absurd g h⟩
theorem t_ends {K : Cx} {d T a P : Nat} {σ : Sg} {m : Mm} {l : Ml} {B : Nat → Nat} {f : Nat → Int32} {fl b t : Int32} {Q : Rt} (hm : wfM σ) (hb : tpM m B T) (hT : f 19 = nI T) (ha : a ≤ T)
    (h1 : (stS B T (0, P, a)).1 = 0 → Q 1 σ (MS m f fl B T a) (upL l 199 18 (mV B T a))) (h0 : (stS B T (0, P, a)).1 ≠ 0 → Q 0 σ (MS m f (nI (stS B T (0, P, a)).1) B T a) (upL l 199 18 (mV B T a))) : CT K (d + 4) YX6_ends [.ref 199] σ (setR m 199 (mp f fl (nI a) b t)) l Q := by
  have hm0 := hm
  obtain ⟨M0, R0, R1, R2, R4, R8, R10, R11, R12, R14, R20, R21, R22, A200, L200, A201, L201, A202, L202, A203, L203, A204, L204, A205, L205, A206, L206, A207, L207, A208, L208, A209, L209, A210, L210, A211, L211⟩ := hm
  refine kX6_ends ?_
  simp only [xX6_ends_0, xX6_ends_1, xX6_ends_4, xX6_ends_5, xX6_ends_6, xX6_ends_9, xX6_ends_10, xX6_ends_13, xX6_ends_14, xX6_ends_17, xX6_ends_18, xX6_ends_21, Bool.false_eq_true, if_true, if_false, kl_i, kl_a, kl_s, kl_u, kl_l, okS_nil, okS_cons, cat_i, cat_a, cat_s, cat_l, Nat.reduceAdd, Nat.reduceLeDiff, Nat.reduceSub, Nat.sub_zero, Nat.sub_self, Nat.zero_add, Nat.le_refl, Nat.zero_le, List.length_cons, List.length_nil, true_and, and_true, true_or, or_true, eq_self, forall_const, true_implies, not_true_eq_false, not_false_eq_true, false_implies, implies_true, false_and, and_false, false_or, or_false, M0]
  refine t_next hm0 hb hT ha ?_
  have c3 : (nI (lxT B T a) = 3) = (lxT B T a = 3) := nT B T a (k := 3) (by omega)
  simp only [xX6_ends_0, xX6_ends_1, xX6_ends_4, xX6_ends_5, xX6_ends_6, xX6_ends_9, xX6_ends_10, xX6_ends_13, xX6_ends_14, xX6_ends_17, xX6_ends_18, xX6_ends_21, Bool.false_eq_true, if_true, if_false, kl_i, kl_a, kl_s, kl_u, kl_l, okS_nil, okS_cons, cat_i, cat_a, cat_s, cat_l, Nat.reduceAdd, Nat.reduceLeDiff, Nat.reduceSub, Nat.sub_zero, Nat.sub_self, Nat.zero_add, Nat.le_refl, Nat.zero_le, List.length_cons, List.length_nil, true_and, and_true, true_or, or_true, eq_self, forall_const, true_implies, not_true_eq_false, not_false_eq_true, false_implies, implies_true, false_and, and_false, false_or, or_false, s199, s199_203, s199_209, upM_setR, setR_setR, mp_6, mp_15, mp_16, mp_17, mp_5, mp_19, um_6, um_15, um_16, um_17, uL_r, uL_u, M0, c3, if01]
  unfold stS at h1 h0
  by_cases h : lxT B T a = 3
  · have g := h1 (by rw [if_pos rfl, if_pos h])
    refine ⟨fun _ => ?_, fun g => absurd h g⟩
    exact t_mustBe1 M0 ⟨Or.inr rfl, g⟩
  · have g := h0 (by rw [if_pos rfl, if_neg h]; show (1 : Nat) ≠ 0; decide)
    rw [if_pos rfl, if_neg h] at g
    refine ⟨fun g => absurd g h, fun _ => ?_⟩
    exact t_mustBe0 M0 ⟨Or.inl rfl, g⟩
theorem t_kindHere {K : Cx} {d T a : Nat} {σ : Sg} {m : Mm} {l : Ml} {B : Nat → Nat} {f : Nat → Int32} {fl b t : Int32} {Q : Rt} (hm : wfM σ) (hb : tpM m B T) (hT : f 19 = nI T) (ha : a ≤ T) (hQ : Q (nI (kdN B T a)) σ (MS m f fl B T a) (upL l 199 18 (mV B T a))) : CT K (d + 4) YX6_kindHere [.ref 199] σ (setR m 199 (mp f fl (nI a) b t)) l Q := by
  have hm0 := hm
  obtain ⟨M0, R0, R1, R2, R4, R8, R10, R11, R12, R14, R20, R21, R22, A200, L200, A201, L201, A202, L202, A203, L203, A204, L204, A205, L205, A206, L206, A207, L207, A208, L208, A209, L209, A210, L210, A211, L211⟩ := hm
  refine kX6_kindHere ?_
  simp only [xX6_kindHere_0, xX6_kindHere_1, xX6_kindHere_4, xX6_kindHere_5, xX6_kindHere_8, xX6_kindHere_9, xX6_kindHere_12, xX6_kindHere_13, xX6_kindHere_16, xX6_kindHere_17, xX6_kindHere_20, xX6_kindHere_23, xX6_kindHere_24, xX6_kindHere_27, xX6_kindHere_28, xX6_kindHere_31, xX6_kindHere_32, xX6_kindHere_35, xX6_kindHere_38, xX6_kindHere_39, xX6_kindHere_42, xX6_kindHere_43, xX6_kindHere_46, xX6_kindHere_47, xX6_kindHere_50, xX6_kindHere_53, xX6_kindHere_54, xX6_kindHere_57, xX6_kindHere_58, xX6_kindHere_61, xX6_kindHere_62, xX6_kindHere_65, xX6_kindHere_68, xX6_kindHere_69, xX6_kindHere_72, xX6_kindHere_73, xX6_kindHere_76, xX6_kindHere_77, xX6_kindHere_80, xX6_kindHere_83, xX6_kindHere_84, xX6_kindHere_87, xX6_kindHere_88, xX6_kindHere_91, xX6_kindHere_92, Bool.false_eq_true, if_true, if_false, kl_i, kl_a, kl_s, kl_u, kl_l, okS_nil, okS_cons, cat_i, cat_a, cat_s, cat_l, Nat.reduceAdd, Nat.reduceLeDiff, Nat.reduceSub, Nat.sub_zero, Nat.sub_self, Nat.zero_add, Nat.le_refl, Nat.zero_le, List.length_cons, List.length_nil, true_and, and_true, true_or, or_true, eq_self, forall_const, true_implies, not_true_eq_false, not_false_eq_true, false_implies, implies_true, false_and, and_false, false_or, or_false, M0]
  refine t_next hm0 hb hT ha ?_
  have c3 : (nI (lxT B T a) = 1) = (lxT B T a = 1) := nT B T a (k := 1) (by omega)
  simp only [xX6_kindHere_0, xX6_kindHere_1, xX6_kindHere_4, xX6_kindHere_5, xX6_kindHere_8, xX6_kindHere_9, xX6_kindHere_12, xX6_kindHere_13, xX6_kindHere_16, xX6_kindHere_17, xX6_kindHere_20, xX6_kindHere_23, xX6_kindHere_24, xX6_kindHere_27, xX6_kindHere_28, xX6_kindHere_31, xX6_kindHere_32, xX6_kindHere_35, xX6_kindHere_38, xX6_kindHere_39, xX6_kindHere_42, xX6_kindHere_43, xX6_kindHere_46, xX6_kindHere_47, xX6_kindHere_50, xX6_kindHere_53, xX6_kindHere_54, xX6_kindHere_57, xX6_kindHere_58, xX6_kindHere_61, xX6_kindHere_62, xX6_kindHere_65, xX6_kindHere_68, xX6_kindHere_69, xX6_kindHere_72, xX6_kindHere_73, xX6_kindHere_76, xX6_kindHere_77, xX6_kindHere_80, xX6_kindHere_83, xX6_kindHere_84, xX6_kindHere_87, xX6_kindHere_88, xX6_kindHere_91, xX6_kindHere_92, Bool.false_eq_true, if_true, if_false, kl_i, kl_a, kl_s, kl_u, kl_l, okS_nil, okS_cons, cat_i, cat_a, cat_s, cat_l, Nat.reduceAdd, Nat.reduceLeDiff, Nat.reduceSub, Nat.sub_zero, Nat.sub_self, Nat.zero_add, Nat.le_refl, Nat.zero_le, List.length_cons, List.length_nil, true_and, and_true, true_or, or_true, eq_self, forall_const, true_implies, not_true_eq_false, not_false_eq_true, false_implies, implies_true, false_and, and_false, false_or, or_false, s199, s199_203, s199_209, upM_setR, setR_setR, mp_6, mp_15, mp_16, mp_17, mp_5, mp_19, um_6, um_15, um_16, um_17, uL_r, uL_u, M0, c3, lg_e]
  unfold kdN at hQ
  by_cases h : lxT B T a = 1
  · refine ⟨fun _ => ?_, fun g => absurd h g⟩
    have e2 : (mV B T a = 99725) = (ltk B T a 2 = true) := hash_iff (i := 2) (by omega) h
    have e3 : (mV B T a = 395097) = (ltk B T a 3 = true) := hash_iff (i := 3) (by omega) h
    have e4 : (mV B T a = 17383076) = (ltk B T a 4 = true) := hash_iff (i := 4) (by omega) h
    have e5 : (mV B T a = 659111367) = (ltk B T a 5 = true) := hash_iff (i := 5) (by omega) h
    have e6 : (mV B T a = 1803621) = (ltk B T a 6 = true) := hash_iff (i := 6) (by omega) h
    simp only [e2, e3, e4, e5, e6]
    refine ⟨fun g => ?_, fun g => ⟨fun g2 => ?_, fun g2 => ⟨fun g3 => ?_, fun g3 => ⟨fun g4 => ?_, fun g4 => ⟨fun g5 => ?_, fun g5 => ?_⟩⟩⟩⟩⟩
    · rw [if_pos g] at hQ; exact hQ
    · rw [if_neg g, if_pos g2] at hQ; exact hQ
    · rw [if_neg g, if_neg g2, if_pos g3] at hQ; exact hQ
    · rw [if_neg g, if_neg g2, if_neg g3, if_pos g4] at hQ; exact hQ
    · rw [if_neg g, if_neg g2, if_neg g3, if_neg g4, if_pos g5] at hQ; exact hQ
    · rw [if_neg g, if_neg g2, if_neg g3, if_neg g4, if_neg g5] at hQ; exact hQ
  · refine ⟨fun g => absurd g h, fun _ => ?_⟩
    have e : ∀ i, (ltk B T a i = true) = False := fun i => eq_false (fun g => h (by unfold ltk at g; rw [Bool.and_eq_true] at g; exact of_decide_eq_true g.1))
    simp only [e, if_false] at hQ
    exact hQ
theorem v64 {n : Nat} (h : n < 1000) : Int64.ofNat n = (nI n).toInt64 := (by decide +kernel : ∀ n : Nat, n < 1000 → Int64.ofNat n = (nI n).toInt64) n h
theorem v32 {n : Nat} (h : n < 1000) : (nI n).toInt64.toInt32 = nI n := (by decide +kernel : ∀ n : Nat, n < 1000 → (nI n).toInt64.toInt32 = nI n) n h
theorem mV_n {B : Nat → Nat} {T a : Nat} (h : lxT B T a = 2) : mV B T a = (nI (lxV B T a)).toInt64 := by
  have hv := lxV_b h
  unfold mV
  rw [if_pos (Or.inr hv.1), hv.1]
  unfold vlS
  rw [if_pos (by omega), if_neg (by decide), if_neg (by decide), ← vG _ _ _ hv.2.1]
  exact v64 hv.2.2
theorem u199 (m : Mm) (F : Nat → Int32) {k : Nat} {x : Int32} : upM (setR m 199 F) 209 k x = setR (setR m 209 (upd (m 209) k x)) 199 F := by
  rw [upM_setR, setR_n _ _ (by decide), setR_comm _ _ _ (by decide)]
theorem tpM_209 {m : Mm} {B : Nat → Nat} {T : Nat} {r : Nat → Int32} (h : tpM m B T) : tpM (setR m 209 r) B T := h
theorem t_number {K : Cx} {d T a P lo hi pl : Nat} {σ : Sg} {m : Mm} {l : Ml} {B : Nat → Nat} {f : Nat → Int32} {fl b t : Int32} {Q : Rt} (hm : wfM σ) (hb : tpM m B T) (hT : f 19 = nI T) (ha : a ≤ T) (hpl : pl < 40) (hlo : lo < 1000) (hhi : hi < 1000)
    (h1 : (stN B T lo hi (0, P, a)).2.1 = 0 → ∀ b t w, Q 1 σ (setR (setR m 209 (upd (m 209) pl (nI (stN B T lo hi (0, P, a)).1))) 199 (mp f fl (nI (stN B T lo hi (0, P, a)).2.2.2) b t)) (upL l 199 18 w))
    (h0 : (stN B T lo hi (0, P, a)).2.1 ≠ 0 → ∀ a' t w, Q 0 σ (setR m 199 (mp f (nI (stN B T lo hi (0, P, a)).2.1) a' (nI (stN B T lo hi (0, P, a)).2.2.1) t)) (upL l 199 18 w)) : CT K (d + 4) YX6_number [.ref 199, .int (nI pl), .int (nI lo), .int (nI hi)] σ (setR m 199 (mp f fl (nI a) b t)) l Q := by
  have hm0 := hm
  obtain ⟨M0, R0, R1, R2, R4, R8, R10, R11, R12, R14, R20, R21, R22, A200, L200, A201, L201, A202, L202, A203, L203, A204, L204, A205, L205, A206, L206, A207, L207, A208, L208, A209, L209, A210, L210, A211, L211⟩ := hm
  refine kX6_number ?_
  simp only [xX6_number_0, xX6_number_1, xX6_number_4, xX6_number_5, xX6_number_8, xX6_number_9, xX6_number_12, xX6_number_13, xX6_number_14, xX6_number_17, xX6_number_18, xX6_number_19, xX6_number_20, xX6_number_23, xX6_number_24, xX6_number_25, xX6_number_26, xX6_number_27, xX6_number_30, xX6_number_33, xX6_number_34, xX6_number_35, xX6_number_38, xX6_number_39, xX6_number_40, xX6_number_41, xX6_number_44, xX6_number_45, xX6_number_46, xX6_number_49, xX6_number_50, xX6_number_51, xX6_number_52, Bool.false_eq_true, if_true, if_false, kl_i, kl_a, kl_s, kl_u, kl_l, okS_nil, okS_cons, cat_i, cat_a, cat_s, cat_l, Nat.reduceAdd, Nat.reduceLeDiff, Nat.reduceSub, Nat.sub_zero, Nat.sub_self, Nat.zero_add, Nat.le_refl, Nat.zero_le, List.length_cons, List.length_nil, true_and, and_true, true_or, or_true, eq_self, forall_const, true_implies, not_true_eq_false, not_false_eq_true, false_implies, implies_true, false_and, and_false, false_or, or_false, M0]
  refine t_next hm0 hb hT ha ?_
  have c3 : (nI (lxT B T a) = 2) = (lxT B T a = 2) := nT B T a (k := 2) (by omega)
  simp only [xX6_number_0, xX6_number_1, xX6_number_4, xX6_number_5, xX6_number_8, xX6_number_9, xX6_number_12, xX6_number_13, xX6_number_14, xX6_number_17, xX6_number_18, xX6_number_19, xX6_number_20, xX6_number_23, xX6_number_24, xX6_number_25, xX6_number_26, xX6_number_27, xX6_number_30, xX6_number_33, xX6_number_34, xX6_number_35, xX6_number_38, xX6_number_39, xX6_number_40, xX6_number_41, xX6_number_44, xX6_number_45, xX6_number_46, xX6_number_49, xX6_number_50, xX6_number_51, xX6_number_52, Bool.false_eq_true, if_true, if_false, kl_i, kl_a, kl_s, kl_u, kl_l, okS_nil, okS_cons, cat_i, cat_a, cat_s, cat_l, Nat.reduceAdd, Nat.reduceLeDiff, Nat.reduceSub, Nat.sub_zero, Nat.sub_self, Nat.zero_add, Nat.le_refl, Nat.zero_le, List.length_cons, List.length_nil, true_and, and_true, true_or, or_true, eq_self, forall_const, true_implies, not_true_eq_false, not_false_eq_true, false_implies, implies_true, false_and, and_false, false_or, or_false, s199, s199_203, s199_209, upM_setR, setR_setR, mp_6, mp_15, mp_16, mp_17, mp_5, mp_19, um_6, um_15, um_16, um_17, uL_r, uL_u, M0, c3]
  unfold stN at h1 h0
  simp only [if_true] at h1 h0
  by_cases h : lxT B T a = 2
  · refine ⟨fun _ => ?_, fun g => absurd h g⟩
    have hv := (lxV_b h).2.2
    rw [if_pos h] at h1 h0
    rw [mV_n h]
    refine t_inI (a := nI lo) (b := nI hi) rfl rfl ?_
    have c1 : (nI (lxV B T a) < nI lo) = (lxV B T a < lo) := ltN (by omega) (by omega)
    have c2 : (nI hi < nI (lxV B T a)) = (hi < lxV B T a) := ltN (by omega) (by omega)
    simp only [c1, c2]
    by_cases g : lxV B T a < lo ∨ hi < lxV B T a
    · have g' : ¬ (¬ lxV B T a < lo ∧ ¬ hi < lxV B T a) := fun q => g.elim q.1 q.2
      rw [if_pos g] at h0
      rw [if_neg g']
      simp only [xX6_number_0, xX6_number_1, xX6_number_4, xX6_number_5, xX6_number_8, xX6_number_9, xX6_number_12, xX6_number_13, xX6_number_14, xX6_number_17, xX6_number_18, xX6_number_19, xX6_number_20, xX6_number_23, xX6_number_24, xX6_number_25, xX6_number_26, xX6_number_27, xX6_number_30, xX6_number_33, xX6_number_34, xX6_number_35, xX6_number_38, xX6_number_39, xX6_number_40, xX6_number_41, xX6_number_44, xX6_number_45, xX6_number_46, xX6_number_49, xX6_number_50, xX6_number_51, xX6_number_52, Bool.false_eq_true, if_true, if_false, kl_i, kl_a, kl_s, kl_u, kl_l, okS_nil, okS_cons, cat_i, cat_a, cat_s, cat_l, Nat.reduceAdd, Nat.reduceLeDiff, Nat.reduceSub, Nat.sub_zero, Nat.sub_self, Nat.zero_add, Nat.le_refl, Nat.zero_le, List.length_cons, List.length_nil, true_and, and_true, true_or, or_true, eq_self, forall_const, true_implies, not_true_eq_false, not_false_eq_true, false_implies, implies_true, false_and, and_false, false_or, or_false, s199, s199_203, s199_209, upM_setR, setR_setR, mp_6, mp_15, mp_16, mp_17, mp_5, mp_19, um_6, um_15, um_16, um_17, uL_r, uL_u, M0]
      exact h0 (by show (2 : Nat) ≠ 0; decide) _ _ _
    · have g' : ¬ lxV B T a < lo ∧ ¬ hi < lxV B T a := ⟨fun q => g (Or.inl q), fun q => g (Or.inr q)⟩
      rw [if_neg g] at h1
      rw [if_pos g']
      have hcv := clN (v := pl) (by omega)
      have hiv := inN (v := pl) (n := 40) hpl (by omega)
      simp only [xX6_number_0, xX6_number_1, xX6_number_4, xX6_number_5, xX6_number_8, xX6_number_9, xX6_number_12, xX6_number_13, xX6_number_14, xX6_number_17, xX6_number_18, xX6_number_19, xX6_number_20, xX6_number_23, xX6_number_24, xX6_number_25, xX6_number_26, xX6_number_27, xX6_number_30, xX6_number_33, xX6_number_34, xX6_number_35, xX6_number_38, xX6_number_39, xX6_number_40, xX6_number_41, xX6_number_44, xX6_number_45, xX6_number_46, xX6_number_49, xX6_number_50, xX6_number_51, xX6_number_52, Bool.false_eq_true, if_true, if_false, kl_i, kl_a, kl_s, kl_u, kl_l, okS_nil, okS_cons, cat_i, cat_a, cat_s, cat_l, Nat.reduceAdd, Nat.reduceLeDiff, Nat.reduceSub, Nat.sub_zero, Nat.sub_self, Nat.zero_add, Nat.le_refl, Nat.zero_le, List.length_cons, List.length_nil, true_and, and_true, true_or, or_true, eq_self, forall_const, true_implies, not_true_eq_false, not_false_eq_true, false_implies, implies_true, false_and, and_false, false_or, or_false, s199, mp_6, mp_15, mp_16, mp_17, uL_r, M0, i10, R20, A209, L209, hcv, hiv, v32 hv, u199]
      exact h1 rfl _ _ _
  · refine ⟨fun g => absurd g h, fun _ => ?_⟩
    rw [if_neg h] at h0
    exact h0 (by show (1 : Nat) ≠ 0; decide) _ _ _
