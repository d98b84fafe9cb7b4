/-! calls: ask, both -/
theorem ask_an {K : Cx} {σ : Sg} {m : Mm} {N v k z : Nat} (hw : wfN σ) (hl : wfL σ) (h7 : N ≤ 7) (hv : v < N) (h8 : m 33 8 = nI N) (hk : m 34 v = nI k) (h1 : 1 ≤ k) (h5 : k ≤ 5) (hz : z ≤ 1) :
    ∃ h, h ≤ 4 ∧ AN K σ m v (if z = 0 then szI (nI k) else mkI (nI k)) h (askA k z v (m 35 v) (m 36 v)) (askL k z) ∧ (askL k z).length ≤ 16 := by
  have b10 := a10 (K := K) (m0 := m) hw hl h7 hv h8
  have b20 := a20 (K := K) (m0 := m) hw hl h7 hv h8
  have b13 := a13 (K := K) hw hl h7 hv h8 b10
  have b14 := a14 (K := K) hw hl h7 hv h8 b13
  have b21 := a21 (K := K) hw hl h7 hv h8 b20
  have b22 := a22 (K := K) hw hl h7 hv h8 b21
  have b24 := a24 (K := K) hw hl h7 hv h8 b21
  have hk' : k = 1 ∨ k = 2 ∨ k = 3 ∨ k = 4 ∨ k = 5 := by omega
  have hz' : z = 0 ∨ z = 1 := by omega
  rcases hk' with g | g | g | g | g <;> subst g
  · have e1 : AN K σ m v (mkI (m 34 v)) (0 + 1) (nI v + m 36 v) [21, 20] := by rw [hk]; exact b21
    have b11 := a11 hw hl h7 hv h8 b10 e1
    rcases hz' with g | g <;> subst g
    · exact ⟨_, by omega, b11, by decide⟩
    · exact ⟨_, by omega, b21, by decide⟩
  · have e1 : AN K σ m v (mkI (m 34 v)) (0 + 1 + 1) (2 * (nI v + m 36 v)) [24, 21, 20] := by rw [hk]; exact b24
    have b11 := a11 hw hl h7 hv h8 b10 e1
    have b12 := a12 hw hl h7 hv h8 b11
    rcases hz' with g | g <;> subst g
    · exact ⟨_, by omega, b12, by decide⟩
    · exact ⟨_, by omega, b24, by decide⟩
  · have e1 : AN K σ m v (mkI (m 34 v)) (0 + 1 + 1) (nI v + m 36 v - 1000) [22, 21, 20] := by rw [hk]; exact b22
    have b11 := a11 hw hl h7 hv h8 b10 e1
    rcases hz' with g | g <;> subst g
    · exact ⟨_, by omega, b11, by decide⟩
    · exact ⟨_, by omega, b22, by decide⟩
  · have e1 : AN K σ m v (szI (m 34 v)) (0 + 1) (m 35 v - 100) [13, 10] := by rw [hk]; exact b13
    have b23 := a23 hw hl h7 hv h8 b20 e1
    rcases hz' with g | g <;> subst g
    · exact ⟨_, by omega, b13, by decide⟩
    · exact ⟨_, by omega, b23, by decide⟩
  · have e1 : AN K σ m v (szI (m 34 v)) (0 + 1 + 1) (2 * (m 35 v - 100)) [14, 13, 10] := by rw [hk]; exact b14
    have b23 := a23 hw hl h7 hv h8 b20 e1
    rcases hz' with g | g <;> subst g
    · exact ⟨_, by omega, b14, by decide⟩
    · exact ⟨_, by omega, b23, by decide⟩
theorem p_ask {K : Cx} {σ : Sg} (hw : WF σ) (x y : Int32) : PAIR K σ YX5_ask YX6_ask [.int x, .int y] := by
  intro m l h
  obtain ⟨wN, wR, wT, wA, wL, wM, wI⟩ := hw
  have hM := wM
  have hN := wN
  have hL := wL
  obtain ⟨H0, F0, F1, F2, F3, F4, F5, F6, F7, P33, P39, P45⟩ := wN
  obtain ⟨M0, R0, R1, R2, R4, R8, R10, R11, R12, R14, R20, R21, R22, A200, L200, A201, L201, A202, L202, A203, L203, A204, L204, A205, L205, A206, L206, A207, L207, A208, L208, A209, L209, A210, L210, A211, L211⟩ := wM
  obtain ⟨N, X, A, h7, hn, hb, ht, hz, hX, hA, a1, a2, a3, ha⟩ := h.2.2.2.2.1
  have h8 : m 33 8 = nI N := hn.2.1
  have h2 := now_2 hn
  have badm : (¬ (¬ x < 0 ∧ x < nI N) ∨ ¬ (¬ y < 0 ∧ ¬ 1 < y)) → CT K 12 YX6_ask [.ref 199, .int x, .int y] σ m l (fun r' σ2 m2 l2 => σ2 = σ ∧ r' = -1000001 ∧ RR m2) := by
    intro hb
    refine kX6_ask ?_
    simp only [xX6_ask_0, xX6_ask_1, xX6_ask_2, xX6_ask_5, xX6_ask_8, xX6_ask_9, xX6_ask_10, xX6_ask_11, xX6_ask_12, xX6_ask_15, xX6_ask_18, xX6_ask_20, Bool.false_eq_true, if_true, if_false, kl_i, kl_a, kl_s, kl_u, kl_l, okS_nil, okS_cons, cat_i, cat_a, cat_s, cat_l, Nat.reduceAdd, Nat.reduceLeDiff, Nat.reduceSub, Nat.sub_zero, Nat.sub_self, Nat.zero_add, Nat.le_refl, Nat.zero_le, List.length_cons, List.length_nil, true_and, and_true, true_or, or_true, eq_self, forall_const, true_implies, not_true_eq_false, not_false_eq_true, false_implies, implies_true, false_and, and_false, false_or, or_false, M0]
    refine t_isVillage hM h2 h7 ?_
    by_cases hv : ¬ x < 0 ∧ x < nI N
    · rw [if_pos hv]
      simp only [xX6_ask_0, xX6_ask_1, xX6_ask_2, xX6_ask_5, xX6_ask_8, xX6_ask_9, xX6_ask_10, xX6_ask_11, xX6_ask_12, xX6_ask_15, xX6_ask_18, xX6_ask_20, Bool.false_eq_true, if_true, if_false, kl_i, kl_a, kl_s, kl_u, kl_l, okS_nil, okS_cons, cat_i, cat_a, cat_s, cat_l, Nat.reduceAdd, Nat.reduceLeDiff, Nat.reduceSub, Nat.sub_zero, Nat.sub_self, Nat.zero_add, Nat.le_refl, Nat.zero_le, List.length_cons, List.length_nil, true_and, and_true, true_or, or_true, eq_self, forall_const, true_implies, not_true_eq_false, not_false_eq_true, false_implies, implies_true, false_and, and_false, false_or, or_false, M0, i10]
      refine t_inI (a := 0) (b := 1) (by decide) (by decide) ?_
      rw [if_neg (hb.resolve_left (fun g => g hv))]
      simp only [xX6_ask_0, xX6_ask_1, xX6_ask_2, xX6_ask_5, xX6_ask_8, xX6_ask_9, xX6_ask_10, xX6_ask_11, xX6_ask_12, xX6_ask_15, xX6_ask_18, xX6_ask_20, Bool.false_eq_true, if_true, if_false, kl_i, kl_a, kl_s, kl_u, kl_l, okS_nil, okS_cons, cat_i, cat_a, cat_s, cat_l, Nat.reduceAdd, Nat.reduceLeDiff, Nat.reduceSub, Nat.sub_zero, Nat.sub_self, Nat.zero_add, Nat.le_refl, Nat.zero_le, List.length_cons, List.length_nil, true_and, and_true, true_or, or_true, eq_self, forall_const, true_implies, not_true_eq_false, not_false_eq_true, false_implies, implies_true, false_and, and_false, false_or, or_false, M0]
      exact h
    · rw [if_neg hv]
      simp only [xX6_ask_0, xX6_ask_1, xX6_ask_2, xX6_ask_5, xX6_ask_8, xX6_ask_9, xX6_ask_10, xX6_ask_11, xX6_ask_12, xX6_ask_15, xX6_ask_18, xX6_ask_20, Bool.false_eq_true, if_true, if_false, kl_i, kl_a, kl_s, kl_u, kl_l, okS_nil, okS_cons, cat_i, cat_a, cat_s, cat_l, Nat.reduceAdd, Nat.reduceLeDiff, Nat.reduceSub, Nat.sub_zero, Nat.sub_self, Nat.zero_add, Nat.le_refl, Nat.zero_le, List.length_cons, List.length_nil, true_and, and_true, true_or, or_true, eq_self, forall_const, true_implies, not_true_eq_false, not_false_eq_true, false_implies, implies_true, false_and, and_false, false_or, or_false, M0]
      exact h
  refine kX5_ask ?_
  simp only [xX5_ask_0, xX5_ask_1, xX5_ask_4, xX5_ask_5, xX5_ask_8, xX5_ask_11, xX5_ask_12, xX5_ask_15, xX5_ask_16, xX5_ask_17, xX5_ask_20, xX5_ask_22, xX5_ask_23, xX5_ask_24, xX5_ask_27, xX5_ask_28, xX5_ask_31, xX5_ask_32, xX5_ask_35, xX5_ask_38, xX5_ask_39, xX5_ask_40, xX5_ask_41, xX5_ask_42, xX5_ask_45, xX5_ask_46, xX5_ask_49, xX5_ask_52, xX5_ask_53, xX5_ask_56, xX5_ask_57, xX5_ask_60, xX5_ask_61, xX5_ask_62, xX5_ask_65, xX5_ask_66, xX5_ask_69, Bool.false_eq_true, if_true, if_false, kl_i, kl_a, kl_s, kl_u, kl_l, okS_nil, okS_cons, cat_i, cat_a, cat_s, cat_l, Nat.reduceAdd, Nat.reduceLeDiff, Nat.reduceSub, Nat.sub_zero, Nat.sub_self, Nat.zero_add, Nat.le_refl, Nat.zero_le, List.length_cons, List.length_nil, true_and, and_true, true_or, or_true, eq_self, forall_const, true_implies, not_true_eq_false, not_false_eq_true, false_implies, implies_true, false_and, and_false, false_or, or_false, H0, F0, F1, F2, F3, F4, F5, F6, F7, P33.1, P39.1, P45.1]
  refine t_has P33.1 ?_
  rw [h8]
  by_cases hv : ¬ (¬ x < 0 ∧ x < nI N)
  · rw [if_neg hv]
    simp only [xX5_ask_0, xX5_ask_1, xX5_ask_4, xX5_ask_5, xX5_ask_8, xX5_ask_11, xX5_ask_12, xX5_ask_15, xX5_ask_16, xX5_ask_17, xX5_ask_20, xX5_ask_22, xX5_ask_23, xX5_ask_24, xX5_ask_27, xX5_ask_28, xX5_ask_31, xX5_ask_32, xX5_ask_35, xX5_ask_38, xX5_ask_39, xX5_ask_40, xX5_ask_41, xX5_ask_42, xX5_ask_45, xX5_ask_46, xX5_ask_49, xX5_ask_52, xX5_ask_53, xX5_ask_56, xX5_ask_57, xX5_ask_60, xX5_ask_61, xX5_ask_62, xX5_ask_65, xX5_ask_66, xX5_ask_69, Bool.false_eq_true, if_true, if_false, kl_i, kl_a, kl_s, kl_u, kl_l, okS_nil, okS_cons, cat_i, cat_a, cat_s, cat_l, Nat.reduceAdd, Nat.reduceLeDiff, Nat.reduceSub, Nat.sub_zero, Nat.sub_self, Nat.zero_add, Nat.le_refl, Nat.zero_le, List.length_cons, List.length_nil, true_and, and_true, true_or, or_true, eq_self, forall_const, true_implies, not_true_eq_false, not_false_eq_true, false_implies, implies_true, false_and, and_false, false_or, or_false, H0, F0, F1, F2, F3, F4, F5, F6, F7, P33.1, P39.1, P45.1]
    exact badm (Or.inl hv)
  have hv := Decidable.not_not.mp hv
  rw [if_pos hv]
  obtain ⟨v, hlt, e⟩ := nat_of (by omega) hv.1 hv.2
  subst e
  have hcv := clN (v := v) (by omega)
  have hiv := inN (v := v) (n := 7) (by omega) (by omega)
  obtain ⟨hO, r0, r1, r2, r3, r4, o1, o2, o3, o4, o5, l1, l2, l3, l4, l5⟩ := P33
  have e34 : ∀ z, upM m 197 1 z 34 = m 34 := fun z => upM_n _ _ _ (by decide)
  simp only [xX5_ask_0, xX5_ask_1, xX5_ask_4, xX5_ask_5, xX5_ask_8, xX5_ask_11, xX5_ask_12, xX5_ask_15, xX5_ask_16, xX5_ask_17, xX5_ask_20, xX5_ask_22, xX5_ask_23, xX5_ask_24, xX5_ask_27, xX5_ask_28, xX5_ask_31, xX5_ask_32, xX5_ask_35, xX5_ask_38, xX5_ask_39, xX5_ask_40, xX5_ask_41, xX5_ask_42, xX5_ask_45, xX5_ask_46, xX5_ask_49, xX5_ask_52, xX5_ask_53, xX5_ask_56, xX5_ask_57, xX5_ask_60, xX5_ask_61, xX5_ask_62, xX5_ask_65, xX5_ask_66, xX5_ask_69, Bool.false_eq_true, if_true, if_false, kl_i, kl_a, kl_s, kl_u, kl_l, okS_nil, okS_cons, cat_i, cat_a, cat_s, cat_l, Nat.reduceAdd, Nat.reduceLeDiff, Nat.reduceSub, Nat.sub_zero, Nat.sub_self, Nat.zero_add, Nat.le_refl, Nat.zero_le, List.length_cons, List.length_nil, true_and, and_true, true_or, or_true, eq_self, forall_const, true_implies, not_true_eq_false, not_false_eq_true, false_implies, implies_true, false_and, and_false, false_or, or_false, H0, F2, F7, hL.1, hO, r0, r1, r2, r3, r4, o1, o2, o3, o4, o5, l1, l2, l3, l4, l5, i10, hcv, hiv, e34]
  by_cases hy0 : y < 0
  · exact ⟨fun _ => badm (Or.inr (fun g => g.1 hy0)), fun g => absurd hy0 g⟩
  refine ⟨fun g => absurd g hy0, fun _ => ?_⟩
  by_cases hy1 : 1 < y
  · exact ⟨fun _ => badm (Or.inr (fun g => g.2 hy1)), fun g => absurd hy1 g⟩
  refine ⟨fun g => absurd g hy1, fun _ => ?_⟩
  obtain ⟨z, z1, z2, e⟩ := rng (a := 0) (b := 1) (by omega) (by omega) ⟨hy0, hy1⟩
  subst e
  obtain ⟨nt, rm, D, b1, b2, b3, b4, b5, b6, b7⟩ := hb
  obtain ⟨k, _, _, _, d1, d2, d3, _⟩ := b7 v hlt
  obtain ⟨p1, p2, p3, p4⟩ := hn.1.2.2.2.2.2.1 v hlt
  have hk : m 34 v = nI k := Eq.trans p1 d1
  have f35 : m 35 v = m 204 (26 + v) := p4
  have f36 : m 36 v = m 204 (12 + v) := p2
  obtain ⟨hh, h4, an, hlen⟩ := ask_an (K := K) (k := k) (z := z) hN hL h7 hlt h8 hk d2 d3 z2
  have fin : ∀ b, b = (if z = 0 then szI (nI k) else mkI (nI k)) → CT K 11 YX5_answer [.int b, .ref 33, .int (nI v), .ref 197, .int 1] σ (upM m 197 1 0) l (fun r σ1 m1 l1 => σ1 = σ ∧ CT K 12 YX6_ask [.ref 199, .int (nI v), .int (nI z)] σ m1 l1 (fun r' σ2 m2 l2 => σ2 = σ ∧ r' = r ∧ RR m2)) := by
    intro b eb
    subst eb
    have g := an (9 - hh) 1 0 (upM m 197 1 0) l (fun r σ1 m1 l1 => σ1 = σ ∧ CT K 12 YX6_ask [.ref 199, .int (nI v), .int (nI z)] σ m1 l1 (fun r' σ2 m2 l2 => σ2 = σ ∧ r' = r ∧ RR m2)) (by omega) (fun p hp => upM_n _ _ _ (by omega)) (by rw [upM_s, upd_s]; rfl) (by omega) ⟨rfl, ?_⟩
    · rw [show 9 - hh + 2 + hh = 11 by omega] at g
      exact g
    · have q204 : psh (upM m 197 1 0) 0 (askL k z) 204 = m 204 := (psh_o (by omega) _ _ _).trans (upM_n _ _ _ (by decide))
      refine t_mAsk (N := N) (k := k) (z := z) hM h7 (by rw [q204]; exact h2) hlt (by rw [q204]; exact d1) d3 z2 ?_
      rw [q204, f35, f36]
      exact ⟨rfl, rfl, RR_tr h hlen⟩
  have cz0 : (nI z = 0) = (z = 0) := eqN (a := z) (b := 0) (by omega) (by omega)
  rw [hk]
  simp only [cz0]
  refine ⟨fun g => ?_, fun g => ?_⟩
  · refine t_sizeBody ?_
    first
      | exact fin _ (by rw [if_pos g])
      | (simp only [xX5_ask_0, xX5_ask_1, xX5_ask_4, xX5_ask_5, xX5_ask_8, xX5_ask_11, xX5_ask_12, xX5_ask_15, xX5_ask_16, xX5_ask_17, xX5_ask_20, xX5_ask_22, xX5_ask_23, xX5_ask_24, xX5_ask_27, xX5_ask_28, xX5_ask_31, xX5_ask_32, xX5_ask_35, xX5_ask_38, xX5_ask_39, xX5_ask_40, xX5_ask_41, xX5_ask_42, xX5_ask_45, xX5_ask_46, xX5_ask_49, xX5_ask_52, xX5_ask_53, xX5_ask_56, xX5_ask_57, xX5_ask_60, xX5_ask_61, xX5_ask_62, xX5_ask_65, xX5_ask_66, xX5_ask_69, Bool.false_eq_true, if_true, if_false, kl_i, kl_a, kl_s, kl_u, kl_l, okS_nil, okS_cons, cat_i, cat_a, cat_s, cat_l, Nat.reduceAdd, Nat.reduceLeDiff, Nat.reduceSub, Nat.sub_zero, Nat.sub_self, Nat.zero_add, Nat.le_refl, Nat.zero_le, List.length_cons, List.length_nil, true_and, and_true, true_or, or_true, eq_self, forall_const, true_implies, not_true_eq_false, not_false_eq_true, false_implies, implies_true, false_and, and_false, false_or, or_false, H0, F2, F7, hL.1]; exact fin _ (by rw [if_pos g]))
  · refine t_markBody ?_
    first
      | exact fin _ (by rw [if_neg g])
      | (simp only [xX5_ask_0, xX5_ask_1, xX5_ask_4, xX5_ask_5, xX5_ask_8, xX5_ask_11, xX5_ask_12, xX5_ask_15, xX5_ask_16, xX5_ask_17, xX5_ask_20, xX5_ask_22, xX5_ask_23, xX5_ask_24, xX5_ask_27, xX5_ask_28, xX5_ask_31, xX5_ask_32, xX5_ask_35, xX5_ask_38, xX5_ask_39, xX5_ask_40, xX5_ask_41, xX5_ask_42, xX5_ask_45, xX5_ask_46, xX5_ask_49, xX5_ask_52, xX5_ask_53, xX5_ask_56, xX5_ask_57, xX5_ask_60, xX5_ask_61, xX5_ask_62, xX5_ask_65, xX5_ask_66, xX5_ask_69, Bool.false_eq_true, if_true, if_false, kl_i, kl_a, kl_s, kl_u, kl_l, okS_nil, okS_cons, cat_i, cat_a, cat_s, cat_l, Nat.reduceAdd, Nat.reduceLeDiff, Nat.reduceSub, Nat.sub_zero, Nat.sub_self, Nat.zero_add, Nat.le_refl, Nat.zero_le, List.length_cons, List.length_nil, true_and, and_true, true_or, or_true, eq_self, forall_const, true_implies, not_true_eq_false, not_false_eq_true, false_implies, implies_true, false_and, and_false, false_or, or_false, H0, F2, F7, hL.1]; exact fin _ (by rw [if_neg g]))
