/-! calls on images: image, restore -/
theorem RR_pl {m m' : Mm} (h : RR m) (e : ∀ o, o < 19 ∨ o = 31 ∨ o = 32 ∨ o = 197 ∨ o = 198 ∨ (200 ≤ o ∧ o < 204) ∨ o = 208 → m' o = m o) (e9 : ∀ k, k ≠ 7 → k ≠ 9 → m' 199 k = m 199 k) (h5 : cPl m') (h6 : cIm m') : RR m' := by
  obtain ⟨g1, g2, g3, g4, g5, g6, g7⟩ := h
  refine ⟨cRow_x (fun o ho => e o (by omega)) g1, ?_, ?_, cTp_x ?_ ?_ (e9 5 (by decide) (by decide)) (e 32 (by omega)) (e 203 (by omega)) g4, h5, h6, cTr_x (fun o ho => e o (by omega)) (e9 13 (by decide) (by decide)) g7⟩
  · unfold cSt; rw [e 0 (by omega), e9 3 (by decide) (by decide)]; exact g2
  · unfold cFl; rw [e 0 (by omega), e9 6 (by decide) (by decide)]; exact g3
  · rw [e 31 (by omega)]
  · rw [e 31 (by omega)]
theorem take_0 (q s : Mm) {k : Nat} (h5 : 5 ≤ k) (h10 : k ≤ 10) : takeQ q s 0 k = s 0 k := by
  show takeL q s 7 0 k = _
  unfold takeL
  rw [if_pos (by omega)]
theorem take_j (q s : Mm) {j k : Nat} (h1 : 1 ≤ j) (h5 : j ≤ 5) (hk : k < 7) : takeQ q s j k = s j k := by
  show takeL q s 7 j k = _
  unfold takeL
  rw [if_pos (by omega)]
theorem tri_take {N : Nat} {q s : Mm} {a : Nat → Int32} {L : Nat → Prop} (h7 : N ≤ 7) (h : triQ N s a L) : triQ N (takeQ q s) a L := by
  obtain ⟨⟨e0, e1, e2, e3, e4, e5, e6⟩, e7, e8⟩ := h
  refine ⟨⟨?_, ?_, ?_, ?_, ?_, fun v hv => ?_, fun v hv hl => ?_⟩, ?_, ?_⟩
  · rw [take_0 _ _ (by omega) (by omega)]; exact e0
  · rw [take_0 _ _ (by omega) (by omega)]; exact e1
  · rw [take_0 _ _ (by omega) (by omega)]; exact e2
  · rw [take_0 _ _ (by omega) (by omega)]; exact e3
  · rw [take_0 _ _ (by omega) (by omega)]; exact e4
  · rw [take_j _ _ (by omega) (by omega) (by omega), take_j _ _ (by omega) (by omega) (by omega), take_j _ _ (by omega) (by omega) (by omega), take_j _ _ (by omega) (by omega) (by omega)]; exact e5 v hv
  · rw [take_j _ _ (by omega) (by omega) (by omega)]; exact e6 v hv hl
  · rw [take_0 _ _ (by omega) (by omega)]; exact e7
  · rw [take_0 _ _ (by omega) (by omega)]; exact e8
theorem snap_take {N : Nat} {q s : Mm} {a : Nat → Int32} (h7 : N ≤ 7) (h : snap N s a) : snap N (takeQ q s) a :=
  ⟨tri_take h7 h.1, h.2.1, by rw [take_0 _ _ (by omega) (by omega)]; exact h.2.2⟩
theorem k2 {x : Int32} : (¬ x < 0 ∧ ¬ 1 < x) = (¬ x < 0 ∧ x < 2) := by
  have e : (¬ (1 : Int32) < x) = (x < 2) := by
    refine propext ?_
    rw [Int32.lt_iff_toInt_lt, Int32.lt_iff_toInt_lt]
    have h1 : (1 : Int32).toInt = 1 := by decide
    have h2 : (2 : Int32).toInt = 2 := by decide
    omega
  rw [e]
theorem p_image {K : Cx} {σ : Sg} (hw : WF σ) (x : Int32) : PAIR K σ YX5_image YX6_image [.int x] := by
  intro m l h
  obtain ⟨wN, wR, wT, wA, wL, wM, wI⟩ := hw
  obtain ⟨H0, F0, F1, F2, F3, F4, F5, F6, F7, P33, P39, P45⟩ := wN
  obtain ⟨M0, R0, R1, R2, R4, R8, R10, R11, R12, R14, R20, R21, R22, A200, L200, A201, L201, A202, L202, A203, L203, A204, L204, A205, L205, A206, L206, A207, L207, A208, L208, A209, L209, A210, L210, A211, L211⟩ := wM
  obtain ⟨I1, I2, I3⟩ := wI
  obtain ⟨N, X, A, h7, hn, hb, ht, hz, hX, hA, a1, a2, a3, ha⟩ := h.2.2.2.2.1
  have modb : ∀ r, ((¬ (¬ x < 0 ∧ x < 2) ∧ r = -1000001) ∨ ((¬ x < 0 ∧ x < 2) ∧ m 199 7 = 0 ∧ r = -1000002)) → CT K 12 YX6_image [.ref 199, .int x] σ m l (fun r' σ2 m2 l2 => σ2 = σ ∧ r' = r ∧ RR m2) := by
    intro r hr
    refine kX6_image ?_
    simp only [xX6_image_0, xX6_image_1, xX6_image_2, xX6_image_3, xX6_image_4, xX6_image_7, xX6_image_10, xX6_image_12, xX6_image_13, xX6_image_14, xX6_image_17, xX6_image_20, xX6_image_22, xX6_image_23, xX6_image_24, xX6_image_27, xX6_image_28, xX6_image_29, xX6_image_32, xX6_image_34, xX6_image_35, xX6_image_36, xX6_image_39, xX6_image_40, xX6_image_43, xX6_image_44, xX6_image_45, xX6_image_46, xX6_image_47, Bool.false_eq_true, if_true, if_false, kl_i, kl_a, kl_s, kl_u, kl_l, okS_nil, okS_cons, cat_i, cat_a, cat_s, cat_l, Nat.reduceAdd, Nat.reduceLeDiff, Nat.reduceSub, Nat.sub_zero, Nat.sub_self, Nat.zero_add, Nat.le_refl, Nat.zero_le, List.length_cons, List.length_nil, true_and, and_true, true_or, or_true, eq_self, forall_const, true_implies, not_true_eq_false, not_false_eq_true, false_implies, implies_true, false_and, and_false, false_or, or_false]
    refine t_inI (a := 0) (b := 1) (by decide) (by decide) ?_
    simp only [k2]
    rcases hr with ⟨g1, g2⟩ | ⟨g1, g2, g3⟩
    · rw [if_neg g1]
      simp only [xX6_image_0, xX6_image_1, xX6_image_2, xX6_image_3, xX6_image_4, xX6_image_7, xX6_image_10, xX6_image_12, xX6_image_13, xX6_image_14, xX6_image_17, xX6_image_20, xX6_image_22, xX6_image_23, xX6_image_24, xX6_image_27, xX6_image_28, xX6_image_29, xX6_image_32, xX6_image_34, xX6_image_35, xX6_image_36, xX6_image_39, xX6_image_40, xX6_image_43, xX6_image_44, xX6_image_45, xX6_image_46, xX6_image_47, Bool.false_eq_true, if_true, if_false, kl_i, kl_a, kl_s, kl_u, kl_l, okS_nil, okS_cons, cat_i, cat_a, cat_s, cat_l, Nat.reduceAdd, Nat.reduceLeDiff, Nat.reduceSub, Nat.sub_zero, Nat.sub_self, Nat.zero_add, Nat.le_refl, Nat.zero_le, List.length_cons, List.length_nil, true_and, and_true, true_or, or_true, eq_self, forall_const, true_implies, not_true_eq_false, not_false_eq_true, false_implies, implies_true, false_and, and_false, false_or, or_false]
      exact ⟨g2.symm, h⟩
    · rw [if_pos g1]
      simp only [xX6_image_0, xX6_image_1, xX6_image_2, xX6_image_3, xX6_image_4, xX6_image_7, xX6_image_10, xX6_image_12, xX6_image_13, xX6_image_14, xX6_image_17, xX6_image_20, xX6_image_22, xX6_image_23, xX6_image_24, xX6_image_27, xX6_image_28, xX6_image_29, xX6_image_32, xX6_image_34, xX6_image_35, xX6_image_36, xX6_image_39, xX6_image_40, xX6_image_43, xX6_image_44, xX6_image_45, xX6_image_46, xX6_image_47, Bool.false_eq_true, if_true, if_false, kl_i, kl_a, kl_s, kl_u, kl_l, okS_nil, okS_cons, cat_i, cat_a, cat_s, cat_l, Nat.reduceAdd, Nat.reduceLeDiff, Nat.reduceSub, Nat.sub_zero, Nat.sub_self, Nat.zero_add, Nat.le_refl, Nat.zero_le, List.length_cons, List.length_nil, true_and, and_true, true_or, or_true, eq_self, forall_const, true_implies, not_true_eq_false, not_false_eq_true, false_implies, implies_true, false_and, and_false, false_or, or_false, i10, M0, g2]
      exact ⟨g3.symm, h⟩
  refine kX5_image ?_
  simp only [xX5_image_0, xX5_image_1, xX5_image_4, xX5_image_5, xX5_image_6, xX5_image_9, xX5_image_11, xX5_image_12, xX5_image_13, xX5_image_16, xX5_image_19, xX5_image_22, xX5_image_24, xX5_image_25, xX5_image_26, xX5_image_29, xX5_image_30, xX5_image_31, xX5_image_32, xX5_image_35, xX5_image_38, xX5_image_39, Bool.false_eq_true, if_true, if_false, kl_i, kl_a, kl_s, kl_u, kl_l, okS_nil, okS_cons, cat_i, cat_a, cat_s, cat_l, Nat.reduceAdd, Nat.reduceLeDiff, Nat.reduceSub, Nat.sub_zero, Nat.sub_self, Nat.zero_add, Nat.le_refl, Nat.zero_le, List.length_cons, List.length_nil, true_and, and_true, true_or, or_true, eq_self, forall_const, true_implies, not_true_eq_false, not_false_eq_true, false_implies, implies_true, false_and, and_false, false_or, or_false, H0, F0, F1, F2, F3, F4, F5, F6, F7, P33.1, P39.1, P45.1, I1, I2]
  by_cases hx0 : x < 0
  · exact ⟨fun _ => modb _ (Or.inl ⟨fun g => g.1 hx0, rfl⟩), fun g => absurd hx0 g⟩
  refine ⟨fun g => absurd g hx0, fun _ => ?_⟩
  by_cases hx2 : ¬ x < 2
  · first
      | exact ⟨fun g => absurd g hx2, fun _ => modb _ (Or.inl ⟨fun g => hx2 g.2, rfl⟩)⟩
      | exact ⟨fun _ => modb _ (Or.inl ⟨fun g => hx2 g.2, rfl⟩), fun g => absurd g hx2⟩
  have hx2 := Decidable.not_not.mp hx2
  obtain ⟨k, hk, e⟩ := nat_of (N := 2) (by omega) hx0 hx2
  subst e
  have hcv := clN (v := k) (by omega)
  have hiv := inN (v := k) (n := 2) hk (by omega)
  obtain ⟨q1, q2⟩ := I3 k hk
  have hx : ¬ nI k < 0 ∧ nI k < 2 := ⟨hx0, hx2⟩
  have main : (m 33 5 = 0 → CT K 12 YX6_image [.ref 199, .int (nI k)] σ m l (fun r' σ2 m2 l2 => σ2 = σ ∧ r' = -1000002 ∧ RR m2)) := fun g => modb _ (Or.inr ⟨hx, by rw [← ht]; exact g, rfl⟩)
  simp only [xX5_image_0, xX5_image_1, xX5_image_4, xX5_image_5, xX5_image_6, xX5_image_9, xX5_image_11, xX5_image_12, xX5_image_13, xX5_image_16, xX5_image_19, xX5_image_22, xX5_image_24, xX5_image_25, xX5_image_26, xX5_image_29, xX5_image_30, xX5_image_31, xX5_image_32, xX5_image_35, xX5_image_38, xX5_image_39, hx2, Bool.false_eq_true, if_true, if_false, kl_i, kl_a, kl_s, kl_u, kl_l, okS_nil, okS_cons, cat_i, cat_a, cat_s, cat_l, Nat.reduceAdd, Nat.reduceLeDiff, Nat.reduceSub, Nat.sub_zero, Nat.sub_self, Nat.zero_add, Nat.le_refl, Nat.zero_le, List.length_cons, List.length_nil, true_and, and_true, true_or, or_true, eq_self, forall_const, true_implies, not_true_eq_false, not_false_eq_true, false_implies, implies_true, false_and, and_false, false_or, or_false, H0, F0, F1, F2, F3, F4, F5, F6, F7, P33.1, P39.1, P45.1, hcv, hiv, q1, q2.1]
  refine ⟨main, fun g0 => ?_⟩
  have g1 : m 33 5 = 1 := hn.2.2.resolve_left g0
  refine t_take q2 P33 (by omega) hn.2.2 ?_
  have e199 : ∀ q, putP m (19 + 6 * k) q 199 = m 199 := fun q => putP_o _ _ (by omega)
  have e204 : ∀ q, putP m (19 + 6 * k) q 204 = m 204 := fun q => putP_o _ _ (by omega)
  have e206 : ∀ q, putP m (19 + 6 * k) q 206 = m 206 := fun q => putP_o _ _ (by omega)
  have e7 : ((m 199 7 : Int32) = 0) = False := by rw [← ht, g1]; exact eq_false (by decide)
  have c2 := inN (v := k) (n := 2) hk (by omega)
  refine ⟨rfl, kX6_image ?_⟩
  simp only [xX6_image_0, xX6_image_1, xX6_image_2, xX6_image_3, xX6_image_4, xX6_image_7, xX6_image_10, xX6_image_12, xX6_image_13, xX6_image_14, xX6_image_17, xX6_image_20, xX6_image_22, xX6_image_23, xX6_image_24, xX6_image_27, xX6_image_28, xX6_image_29, xX6_image_32, xX6_image_34, xX6_image_35, xX6_image_36, xX6_image_39, xX6_image_40, xX6_image_43, xX6_image_44, xX6_image_45, xX6_image_46, xX6_image_47, Bool.false_eq_true, if_true, if_false, kl_i, kl_a, kl_s, kl_u, kl_l, okS_nil, okS_cons, cat_i, cat_a, cat_s, cat_l, Nat.reduceAdd, Nat.reduceLeDiff, Nat.reduceSub, Nat.sub_zero, Nat.sub_self, Nat.zero_add, Nat.le_refl, Nat.zero_le, List.length_cons, List.length_nil, true_and, and_true, true_or, or_true, eq_self, forall_const, true_implies, not_true_eq_false, not_false_eq_true, false_implies, implies_true, false_and, and_false, false_or, or_false]
  refine t_inI (a := 0) (b := 1) (by decide) (by decide) ?_
  simp only [k2]
  rw [if_pos hx]
  simp only [xX6_image_0, xX6_image_1, xX6_image_2, xX6_image_3, xX6_image_4, xX6_image_7, xX6_image_10, xX6_image_12, xX6_image_13, xX6_image_14, xX6_image_17, xX6_image_20, xX6_image_22, xX6_image_23, xX6_image_24, xX6_image_27, xX6_image_28, xX6_image_29, xX6_image_32, xX6_image_34, xX6_image_35, xX6_image_36, xX6_image_39, xX6_image_40, xX6_image_43, xX6_image_44, xX6_image_45, xX6_image_46, xX6_image_47, Bool.false_eq_true, if_true, if_false, kl_i, kl_a, kl_s, kl_u, kl_l, okS_nil, okS_cons, cat_i, cat_a, cat_s, cat_l, Nat.reduceAdd, Nat.reduceLeDiff, Nat.reduceSub, Nat.sub_zero, Nat.sub_self, Nat.zero_add, Nat.le_refl, Nat.zero_le, List.length_cons, List.length_nil, true_and, and_true, true_or, or_true, eq_self, forall_const, true_implies, not_true_eq_false, not_false_eq_true, false_implies, implies_true, false_and, and_false, false_or, or_false, i10, M0, R8, R11, e199, e7, m40 k (by omega)]
  refine t_mCopies (i := 0) (j := 40 * k) A204 A206 L204 L206 (by omega) (by omega) (by omega) (by omega) (by decide) ?_
  simp only [xX6_image_0, xX6_image_1, xX6_image_2, xX6_image_3, xX6_image_4, xX6_image_7, xX6_image_10, xX6_image_12, xX6_image_13, xX6_image_14, xX6_image_17, xX6_image_20, xX6_image_22, xX6_image_23, xX6_image_24, xX6_image_27, xX6_image_28, xX6_image_29, xX6_image_32, xX6_image_34, xX6_image_35, xX6_image_36, xX6_image_39, xX6_image_40, xX6_image_43, xX6_image_44, xX6_image_45, xX6_image_46, xX6_image_47, Bool.false_eq_true, if_true, if_false, kl_i, kl_a, kl_s, kl_u, kl_l, okS_nil, okS_cons, cat_i, cat_a, cat_s, cat_l, Nat.reduceAdd, Nat.reduceLeDiff, Nat.reduceSub, Nat.sub_zero, Nat.sub_self, Nat.zero_add, Nat.le_refl, Nat.zero_le, List.length_cons, List.length_nil, true_and, and_true, true_or, or_true, eq_self, forall_const, true_implies, not_true_eq_false, not_false_eq_true, false_implies, implies_true, false_and, and_false, false_or, or_false, M0, R12, A207, L207, hcv, hiv, e204, e206]
  have eb : ((1 : Int32) &&& 1) = 1 := by decide
  have fin : ∀ m', m' = upM (setR (putP m (19 + 6 * k) (takeQ (getP m (19 + 6 * k)) (getP m 33))) 206 (va_cpy (m 204) (m 206) 0 (40 * k) 40)) 207 k 1 → RR m' := by
    intro m' em
    have eo : ∀ o, o ≠ 207 → o ≠ 206 → ¬ (19 + 6 * k ≤ o ∧ o < 19 + 6 * k + 6) → m' o = m o := fun o o1 o2 o3 => by
      rw [em, upM_n _ _ _ o1, setR_n _ _ o2, putP_o _ _ (by omega)]
    refine RR_pl h (fun o ho => eo o (by omega) (by omega) (by omega)) (fun j _ _ => by rw [eo 199 (by omega) (by omega) (by omega)]) (cPl_x (fun o ho => eo o (by omega) (by omega) (by omega)) (by rw [eo 199 (by omega) (by omega) (by omega)]) (by rw [eo 199 (by omega) (by omega) (by omega)]) h.2.2.2.2.1) (fun k' hk' => ?_)
    have eP : ∀ j, j < 6 → getP m' (19 + 6 * k) j = takeQ (getP m (19 + 6 * k)) (getP m 33) j := fun j hj => by
      show m' (19 + 6 * k + j) = _
      rw [em, upM_n _ _ _ (by omega), setR_n _ _ (by omega)]
      exact putP_at _ _ _ hj
    have e207 : m' 207 = upd (m 207) k 1 := by
      rw [em, upM_s, setR_n _ _ (by decide), putP_o _ _ (by omega)]
    have e206' : m' 206 = va_cpy (m 204) (m 206) 0 (40 * k) 40 := by
      rw [em, upM_n _ _ _ (by decide), setR_s]
    by_cases hkk : k' = k
    · subst hkk
      have e0 : m' (19 + 6 * k') 5 = 1 := by
        have := eP 0 (by omega)
        have e2 : m' (19 + 6 * k') = takeQ (getP m (19 + 6 * k')) (getP m 33) 0 := this
        rw [e2, take_0 _ _ (by omega) (by omega)]
        exact g1
      rw [e0, e207, upd_s]
      refine ⟨rfl, Or.inr rfl, fun _ => ⟨by rw [eo 33 (by omega) (by omega) (by omega)]; exact g1, N, h7, ?_⟩⟩
      refine snap_x h7 eP (fun j hj => ?_) (snap_take h7 ⟨hn, hb, g1⟩)
      rw [e206']
      show va_cpy (m 204) (m 206) 0 (40 * k') 40 (40 * k' + j) = m 204 j
      unfold va_cpy
      rw [if_pos (by omega), show 0 + (40 * k' + j - 40 * k') = j by omega]
    · obtain ⟨j1, j2, j3⟩ := h.2.2.2.2.2.1 k' hk'
      rw [eo (19 + 6 * k') (by omega) (by omega) (by omega), e207, upd_n _ _ hkk, eo 33 (by omega) (by omega) (by omega)]
      refine ⟨j1, j2, fun g => ?_⟩
      obtain ⟨j4, N', j5, j6⟩ := j3 g
      refine ⟨j4, N', j5, snap_x j5 (fun j hj => getP_x (fun o h1 h2 => eo o (by omega) (by omega) (by omega)) hj) (fun j hj => ?_) j6⟩
      rw [e206']
      show va_cpy (m 204) (m 206) 0 (40 * k) 40 (40 * k' + j) = m 206 (40 * k' + j)
      unfold va_cpy
      rw [if_neg (by omega)]
  first
    | exact fin _ rfl
    | (simp only [eb]; exact fin _ rfl)
    | exact ⟨rfl, rfl, fin _ rfl⟩
