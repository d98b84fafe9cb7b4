/-! calls: feed -/
theorem p_feed {K : Cx} {σ : Sg} (hw : WF σ) (w : Int64) (y : Int32) : PAIR K σ YX5_feed YX6_feed [.long w, .int y] := by
  intro m l h
  obtain ⟨wN, wR, wT, wA, wL, wM, wI⟩ := hw
  have hM := wM
  have hT := wT
  obtain ⟨H0, F0, F1, F2, F3, F4, F5, F6, F7, P33, P39, P45⟩ := wN
  obtain ⟨M0, R0, R1, R2, R4, R8, R10, R11, R12, R14, R20, R21, R22, A200, L200, A201, L201, A202, L202, A203, L203, A204, L204, A205, L205, A206, L206, A207, L207, A208, L208, A209, L209, A210, L210, A211, L211⟩ := wM
  obtain ⟨c1, c2, c3, ⟨T, B, P, u1, u2, u3, u4, u5⟩, c5, c6, c7⟩ := h
  have h : RR m := ⟨c1, c2, c3, ⟨T, B, P, u1, u2, u3, u4, u5⟩, c5, c6, c7⟩
  have hT4 := u1.1
  have modb : ∀ r, ((¬ (¬ y < 1 ∧ ¬ 8 < y) ∧ r = -1000001) ∨ ((¬ y < 1 ∧ ¬ 8 < y) ∧ 400 < nI T + y ∧ r = -1000003)) → CT K 12 YX6_feed [.ref 199, .long w, .int y] σ m l (fun r' σ2 m2 l2 => σ2 = σ ∧ r' = r ∧ RR m2) := by
    intro r hr
    refine kX6_feed ?_
    simp only [xX6_feed_0, xX6_feed_1, xX6_feed_2, xX6_feed_3, xX6_feed_6, xX6_feed_9, xX6_feed_12, xX6_feed_14, xX6_feed_15, xX6_feed_16, xX6_feed_19, xX6_feed_20, xX6_feed_21, xX6_feed_24, xX6_feed_27, xX6_feed_29, xX6_feed_30, xX6_feed_31, xX6_feed_32, xX6_feed_33, Bool.false_eq_true, if_true, if_false, kl_i, kl_a, kl_s, kl_u, kl_l, okS_nil, okS_cons, cat_i, cat_a, cat_s, cat_l, Nat.reduceAdd, Nat.reduceLeDiff, Nat.reduceSub, Nat.sub_zero, Nat.sub_self, Nat.zero_add, Nat.le_refl, Nat.zero_le, List.length_cons, List.length_nil, true_and, and_true, true_or, or_true, eq_self, forall_const, true_implies, not_true_eq_false, not_false_eq_true, false_implies, implies_true, false_and, and_false, false_or, or_false]
    refine t_inI (a := 1) (b := 8) (by decide) (by decide) ?_
    rcases hr with ⟨g1, g2⟩ | ⟨g1, g2, g3⟩
    · rw [if_neg g1]
      simp only [xX6_feed_0, xX6_feed_1, xX6_feed_2, xX6_feed_3, xX6_feed_6, xX6_feed_9, xX6_feed_12, xX6_feed_14, xX6_feed_15, xX6_feed_16, xX6_feed_19, xX6_feed_20, xX6_feed_21, xX6_feed_24, xX6_feed_27, xX6_feed_29, xX6_feed_30, xX6_feed_31, xX6_feed_32, xX6_feed_33, Bool.false_eq_true, if_true, if_false, kl_i, kl_a, kl_s, kl_u, kl_l, okS_nil, okS_cons, cat_i, cat_a, cat_s, cat_l, Nat.reduceAdd, Nat.reduceLeDiff, Nat.reduceSub, Nat.sub_zero, Nat.sub_self, Nat.zero_add, Nat.le_refl, Nat.zero_le, List.length_cons, List.length_nil, true_and, and_true, true_or, or_true, eq_self, forall_const, true_implies, not_true_eq_false, not_false_eq_true, false_implies, implies_true, false_and, and_false, false_or, or_false]
      exact ⟨g2.symm, h⟩
    · rw [if_pos g1]
      simp only [xX6_feed_0, xX6_feed_1, xX6_feed_2, xX6_feed_3, xX6_feed_6, xX6_feed_9, xX6_feed_12, xX6_feed_14, xX6_feed_15, xX6_feed_16, xX6_feed_19, xX6_feed_20, xX6_feed_21, xX6_feed_24, xX6_feed_27, xX6_feed_29, xX6_feed_30, xX6_feed_31, xX6_feed_32, xX6_feed_33, Bool.false_eq_true, if_true, if_false, kl_i, kl_a, kl_s, kl_u, kl_l, okS_nil, okS_cons, cat_i, cat_a, cat_s, cat_l, Nat.reduceAdd, Nat.reduceLeDiff, Nat.reduceSub, Nat.sub_zero, Nat.sub_self, Nat.zero_add, Nat.le_refl, Nat.zero_le, List.length_cons, List.length_nil, true_and, and_true, true_or, or_true, eq_self, forall_const, true_implies, not_true_eq_false, not_false_eq_true, false_implies, implies_true, false_and, and_false, false_or, or_false, i10, M0, u4, g2]
      exact ⟨g3.symm, h⟩
  refine kX5_feed ?_
  simp only [xX5_feed_0, xX5_feed_1, xX5_feed_2, xX5_feed_5, xX5_feed_6, xX5_feed_8, xX5_feed_11, xX5_feed_13, xX5_feed_14, xX5_feed_15, xX5_feed_18, xX5_feed_19, xX5_feed_22, xX5_feed_25, xX5_feed_26, xX5_feed_29, xX5_feed_31, xX5_feed_32, xX5_feed_33, xX5_feed_36, xX5_feed_37, xX5_feed_38, xX5_feed_41, xX5_feed_42, xX5_feed_45, xX5_feed_48, Bool.false_eq_true, if_true, if_false, kl_i, kl_a, kl_s, kl_u, kl_l, okS_nil, okS_cons, cat_i, cat_a, cat_s, cat_l, Nat.reduceAdd, Nat.reduceLeDiff, Nat.reduceSub, Nat.sub_zero, Nat.sub_self, Nat.zero_add, Nat.le_refl, Nat.zero_le, List.length_cons, List.length_nil, true_and, and_true, true_or, or_true, eq_self, forall_const, true_implies, not_true_eq_false, not_false_eq_true, false_implies, implies_true, false_and, and_false, false_or, or_false, H0, F0, F1, F2, F3, F4, F5, F6, F7, P33.1, P39.1, P45.1, hT.1, u3]
  by_cases hy0 : y < 1
  · exact ⟨fun _ => modb _ (Or.inl ⟨fun g => g.1 hy0, rfl⟩), fun g => absurd hy0 g⟩
  refine ⟨fun g => absurd g hy0, fun _ => ?_⟩
  by_cases hy1 : 8 < y
  · exact ⟨fun _ => modb _ (Or.inl ⟨fun g => g.2 hy1, rfl⟩), fun g => absurd hy1 g⟩
  refine ⟨fun g => absurd g hy1, fun _ => ?_⟩
  obtain ⟨n, n1, n2, e⟩ := rng (a := 1) (b := 8) (by omega) (by omega) ⟨hy0, hy1⟩
  subst e
  have es : (400 : Int32) - nI T = nI (400 - T) := sbN (x := 400) (y := T) hT4
  have k1 : (nI (400 - T) < nI n) = (400 - T < n) := ltN (by omega) (by omega)
  have k2 : ((400 : Int32) < nI (T + n)) = (400 < T + n) := ltN (a := 400) (b := T + n) (by omega) (by omega)
  rw [es]
  by_cases hf : 400 < T + n
  · refine ⟨fun _ => modb _ (Or.inr ⟨⟨hy0, hy1⟩, ?_, rfl⟩), fun g => absurd (k1.mpr (by omega)) g⟩
    rw [nIk]; exact k2.mpr hf
  refine ⟨fun g => absurd (k1.mp g) (by omega), fun _ => ?_⟩
  refine t_append (T := T) (B := B) hT n1 n2 (by omega) u1 u3 (fun g' hg' => ?_)
  simp only [xX5_feed_0, xX5_feed_1, xX5_feed_2, xX5_feed_5, xX5_feed_6, xX5_feed_8, xX5_feed_11, xX5_feed_13, xX5_feed_14, xX5_feed_15, xX5_feed_18, xX5_feed_19, xX5_feed_22, xX5_feed_25, xX5_feed_26, xX5_feed_29, xX5_feed_31, xX5_feed_32, xX5_feed_33, xX5_feed_36, xX5_feed_37, xX5_feed_38, xX5_feed_41, xX5_feed_42, xX5_feed_45, xX5_feed_48, Bool.false_eq_true, if_true, if_false, kl_i, kl_a, kl_s, kl_u, kl_l, okS_nil, okS_cons, cat_i, cat_a, cat_s, cat_l, Nat.reduceAdd, Nat.reduceLeDiff, Nat.reduceSub, Nat.sub_zero, Nat.sub_self, Nat.zero_add, Nat.le_refl, Nat.zero_le, List.length_cons, List.length_nil, true_and, and_true, true_or, or_true, eq_self, forall_const, true_implies, not_true_eq_false, not_false_eq_true, false_implies, implies_true, false_and, and_false, false_or, or_false, H0, F0, F1, F2, F3, F4, F5, F6, F7, P33.1, P39.1, P45.1, hT.1, s31, upd_s]
  have e199 : setR (setR m 32 g') 31 (upd (m 31) 1 (nI (T + n))) 199 = m 199 := by rw [setR_n _ _ (by decide), setR_n _ _ (by decide)]
  have e203 : setR (setR m 32 g') 31 (upd (m 31) 1 (nI (T + n))) 203 = m 203 := by rw [setR_n _ _ (by decide), setR_n _ _ (by decide)]
  have k2' : ((400 : Int32) < nI T + nI n) = False := by rw [nIk, k2]; exact eq_false hf
  have ep : nI n - 1 = pv n := by
    obtain ⟨n', e⟩ : ∃ n', n = n' + 1 := ⟨n - 1, by omega⟩
    rw [e]
    exact nI_pred n'
  refine kX6_feed ?_
  simp only [xX6_feed_0, xX6_feed_1, xX6_feed_2, xX6_feed_3, xX6_feed_6, xX6_feed_9, xX6_feed_12, xX6_feed_14, xX6_feed_15, xX6_feed_16, xX6_feed_19, xX6_feed_20, xX6_feed_21, xX6_feed_24, xX6_feed_27, xX6_feed_29, xX6_feed_30, xX6_feed_31, xX6_feed_32, xX6_feed_33, Bool.false_eq_true, if_true, if_false, kl_i, kl_a, kl_s, kl_u, kl_l, okS_nil, okS_cons, cat_i, cat_a, cat_s, cat_l, Nat.reduceAdd, Nat.reduceLeDiff, Nat.reduceSub, Nat.sub_zero, Nat.sub_self, Nat.zero_add, Nat.le_refl, Nat.zero_le, List.length_cons, List.length_nil, true_and, and_true, true_or, or_true, eq_self, forall_const, true_implies, not_true_eq_false, not_false_eq_true, false_implies, implies_true, false_and, and_false, false_or, or_false]
  refine t_inI (a := 1) (b := 8) (by decide) (by decide) ?_
  rw [if_pos ⟨hy0, hy1⟩]
  simp only [xX6_feed_0, xX6_feed_1, xX6_feed_2, xX6_feed_3, xX6_feed_6, xX6_feed_9, xX6_feed_12, xX6_feed_14, xX6_feed_15, xX6_feed_16, xX6_feed_19, xX6_feed_20, xX6_feed_21, xX6_feed_24, xX6_feed_27, xX6_feed_29, xX6_feed_30, xX6_feed_31, xX6_feed_32, xX6_feed_33, Bool.false_eq_true, if_true, if_false, kl_i, kl_a, kl_s, kl_u, kl_l, okS_nil, okS_cons, cat_i, cat_a, cat_s, cat_l, Nat.reduceAdd, Nat.reduceLeDiff, Nat.reduceSub, Nat.sub_zero, Nat.sub_self, Nat.zero_add, Nat.le_refl, Nat.zero_le, List.length_cons, List.length_nil, true_and, and_true, true_or, or_true, eq_self, forall_const, true_implies, not_true_eq_false, not_false_eq_true, false_implies, implies_true, false_and, and_false, false_or, or_false, i10, M0, e199, u4, k2', ep]
  have key := l_mf (K := K) (d := 11) (m := setR (setR m 32 g') 31 (upd (m 31) 1 (nI (T + n)))) (l := l) (T := T) (n := n) (B := B) (w := w) (F := m 199) (Q := fun r' σ2 m2 l2 => σ2 = σ ∧ r' = nI (T + n) ∧ RR m2) hM n2 (by omega) n 0 (m 203) (.float 0) (by omega) (fun j hj => ?_) (fun gm hgm => ⟨rfl, rfl, ?_⟩)
  · have e1 : setR (setR (setR (setR m 32 g') 31 (upd (m 31) 1 (nI (T + n)))) 203 (m 203)) 199 (upd (m 199) 5 (nI (T + 0))) = setR (setR m 32 g') 31 (upd (m 31) 1 (nI (T + n))) := by
      have q1 : upd (m 199) 5 (nI (T + 0)) = m 199 := by
        funext j
        unfold upd
        by_cases h : j = 5
        · rw [if_pos h, h]; exact u4.symm
        · rw [if_neg h]
      rw [q1]
      have q2 := setR_id (setR (setR m 32 g') 31 (upd (m 31) 1 (nI (T + n)))) 203
      rw [e203] at q2
      rw [q2]
      have q3 := setR_id (setR (setR m 32 g') 31 (upd (m 31) 1 (nI (T + n)))) 199
      rw [e199] at q3
      exact q3
    rw [e1] at key
    exact key
  · unfold newB
    rw [if_pos (by omega)]
    exact (u2.2 j (by omega)).2
  · have fin : ∀ m2, m2 = setR (setR (setR (setR m 32 g') 31 (upd (m 31) 1 (nI (T + n)))) 203 gm) 199 (upd (m 199) 5 (nI (T + n))) → RR m2 := by
      intro m2 em
      have eo : ∀ o, o ≠ 32 → o ≠ 31 → o ≠ 203 → o ≠ 199 → m2 o = m o := fun o o1 o2 o3 o4 => by rw [em, setR_n _ _ o4, setR_n _ _ o3, setR_n _ _ o2, setR_n _ _ o1]
      have f199 : m2 199 = upd (m 199) 5 (nI (T + n)) := by rw [em, setR_s]
      have f31 : m2 31 = upd (m 31) 1 (nI (T + n)) := by rw [em, setR_n _ _ (by decide), setR_n _ _ (by decide), setR_s]
      have f32 : m2 32 = g' := by rw [em, setR_n _ _ (by decide), setR_n _ _ (by decide), setR_n _ _ (by decide), setR_s]
      have f203 : m2 203 = gm := by rw [em, setR_n _ _ (by decide), setR_s]
      have bb : ∀ k, k < T + n → newB B T n w k < 256 := fun k hk => by
        unfold newB
        split
        · next g => exact (u1.2 k g).1
        · exact y8_b _
      refine ⟨cRow_x (fun o ho => eo o (by omega) (by omega) (by omega) (by omega)) c1, ?_, ?_, ⟨T + n, newB B T n w, P, ⟨by omega, fun k hk => ⟨bb k hk, by rw [f32]; exact hg' k hk⟩⟩, ⟨by omega, fun k hk => ⟨bb k hk, by rw [f203]; exact hgm k hk⟩⟩, ?_, ?_, ?_⟩, cPl_x (fun o ho => eo o (by omega) (by omega) (by omega) (by omega)) ?_ ?_ c5, cIm_x (fun o ho => eo o (by omega) (by omega) (by omega) (by omega)) c6, cTr_x (fun o ho => eo o (by omega) (by omega) (by omega) (by omega)) ?_ c7⟩
      · unfold cSt; rw [eo 0 (by decide) (by decide) (by decide) (by decide), f199, upd_n _ _ (by decide)]; exact c2
      · unfold cFl; rw [eo 0 (by decide) (by decide) (by decide) (by decide), f199, upd_n _ _ (by decide)]; exact c3
      · rw [f31, upd_s]
      · rw [f199, upd_s]
      · rw [f31, upd_n _ _ (by decide)]; exact u5
      · rw [f199, upd_n _ _ (by decide)]
      · rw [f199, upd_n _ _ (by decide)]
      · rw [f199, upd_n _ _ (by decide)]
    exact fin _ rfl
