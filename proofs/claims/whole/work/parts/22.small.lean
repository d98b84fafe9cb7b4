/-! rows, the trace, acts, small functions of the class -/
def isRw (σ : Sg) (o : Nat) : Prop := isO σ o 2 ∧ rf σ o 0 = .ref (o + 1) ∧ isO σ (o + 1) 100 ∧ ln σ (o + 1) = 40
def spI (len i n : Int32) : Bool := !(decide (i < 0)) && !(decide (n < 0)) && !(decide (len - i < n))
theorem t_spans {K : Cx} {d : Nat} {σ : Sg} {m : Mm} {l : Ml} {o : Nat} {i n : Int32} {Q : Rt} (hr : isRw σ o) (hQ : Q (if spI (m o 3) i n then 1 else 0) σ m l) : CT K (d + 1) YX2_spans [.ref o, .int i, .int n] σ m l Q := by
  refine kX2_spans ?_
  simp only [xX2_spans_0, xX2_spans_1, xX2_spans_4, xX2_spans_5, xX2_spans_8, xX2_spans_9, xX2_spans_10, xX2_spans_13, xX2_spans_14, xX2_spans_15, xX2_spans_18, xX2_spans_19, xX2_spans_22, xX2_spans_23, Bool.false_eq_true, if_true, if_false, kl_i, kl_a, kl_s, kl_u, kl_l, okS_nil, okS_cons, cat_i, cat_a, cat_s, cat_l, Nat.reduceAdd, Nat.reduceLeDiff, Nat.reduceSub, Nat.sub_zero, Nat.sub_self, Nat.zero_add, Nat.le_refl, Nat.zero_le, List.length_cons, List.length_nil, true_and, and_true, true_or, or_true, eq_self, forall_const, true_implies, not_true_eq_false, not_false_eq_true, false_implies, implies_true, false_and, and_false, false_or, or_false, hr.1]
  unfold spI at hQ
  by_cases h1 : i < 0
  · simp only [h1, Bool.false_eq_true, if_true, if_false, kl_i, kl_a, kl_s, kl_u, kl_l, okS_nil, okS_cons, cat_i, cat_a, cat_s, cat_l, Nat.reduceAdd, Nat.reduceLeDiff, Nat.reduceSub, Nat.sub_zero, Nat.sub_self, Nat.zero_add, Nat.le_refl, Nat.zero_le, List.length_cons, List.length_nil, true_and, and_true, true_or, or_true, eq_self, forall_const, true_implies, not_true_eq_false, not_false_eq_true, false_implies, implies_true, false_and, and_false, false_or, or_false, decide_true, Bool.not_true, Bool.false_and] at hQ ⊢
    exact hQ
  · by_cases h2 : n < 0
    · simp only [h1, h2, Bool.false_eq_true, if_true, if_false, kl_i, kl_a, kl_s, kl_u, kl_l, okS_nil, okS_cons, cat_i, cat_a, cat_s, cat_l, Nat.reduceAdd, Nat.reduceLeDiff, Nat.reduceSub, Nat.sub_zero, Nat.sub_self, Nat.zero_add, Nat.le_refl, Nat.zero_le, List.length_cons, List.length_nil, true_and, and_true, true_or, or_true, eq_self, forall_const, true_implies, not_true_eq_false, not_false_eq_true, false_implies, implies_true, false_and, and_false, false_or, or_false, decide_true, decide_false, Bool.not_true, Bool.not_false, Bool.and_false, Bool.false_and] at hQ ⊢
      exact hQ
    · by_cases h3 : m o 3 - i < n <;> simp only [h1, h2, h3, Bool.false_eq_true, if_true, if_false, kl_i, kl_a, kl_s, kl_u, kl_l, okS_nil, okS_cons, cat_i, cat_a, cat_s, cat_l, Nat.reduceAdd, Nat.reduceLeDiff, Nat.reduceSub, Nat.sub_zero, Nat.sub_self, Nat.zero_add, Nat.le_refl, Nat.zero_le, List.length_cons, List.length_nil, true_and, and_true, true_or, or_true, eq_self, forall_const, true_implies, not_true_eq_false, not_false_eq_true, false_implies, implies_true, false_and, and_false, false_or, or_false, decide_true, decide_false, Bool.not_true, Bool.not_false, Bool.and_false, Bool.false_and, Bool.and_self] at hQ ⊢ <;> exact hQ
def lnI (lane x : Int32) : Int32 := if lane = 0 then x.toInt8.toInt32 else if lane = 1 then x.toInt16.toInt32 else x
theorem t_inLane {K : Cx} {d : Nat} {σ : Sg} {m : Mm} {l : Ml} {o : Nat} {x : Int32} {Q : Rt} (hr : isRw σ o) (hQ : Q (lnI (m o 2) x) σ m l) : CT K (d + 1) YX2_inLane [.ref o, .int x] σ m l Q := by
  refine kX2_inLane ?_
  simp only [xX2_inLane_0, xX2_inLane_1, xX2_inLane_4, xX2_inLane_32, xX2_inLane_33, xX2_inLane_34, xX2_inLane_35, xX2_inLane_36, xX2_inLane_37, xX2_inLane_38, xX2_inLane_39, Bool.false_eq_true, if_true, if_false, kl_i, kl_a, kl_s, kl_u, kl_l, okS_nil, okS_cons, cat_i, cat_a, cat_s, cat_l, Nat.reduceAdd, Nat.reduceLeDiff, Nat.reduceSub, Nat.sub_zero, Nat.sub_self, Nat.zero_add, Nat.le_refl, Nat.zero_le, List.length_cons, List.length_nil, true_and, and_true, true_or, or_true, eq_self, forall_const, true_implies, not_true_eq_false, not_false_eq_true, false_implies, implies_true, false_and, and_false, false_or, or_false, hr.1]
  unfold lnI at hQ
  by_cases h1 : m o 2 = 0
  · simp only [h1, Bool.false_eq_true, if_true, if_false, kl_i, kl_a, kl_s, kl_u, kl_l, okS_nil, okS_cons, cat_i, cat_a, cat_s, cat_l, Nat.reduceAdd, Nat.reduceLeDiff, Nat.reduceSub, Nat.sub_zero, Nat.sub_self, Nat.zero_add, Nat.le_refl, Nat.zero_le, List.length_cons, List.length_nil, true_and, and_true, true_or, or_true, eq_self, forall_const, true_implies, not_true_eq_false, not_false_eq_true, false_implies, implies_true, false_and, and_false, false_or, or_false] at hQ ⊢
    exact hQ
  · by_cases h2 : m o 2 = 1 <;> simp only [h1, h2, Bool.false_eq_true, if_true, if_false, kl_i, kl_a, kl_s, kl_u, kl_l, okS_nil, okS_cons, cat_i, cat_a, cat_s, cat_l, Nat.reduceAdd, Nat.reduceLeDiff, Nat.reduceSub, Nat.sub_zero, Nat.sub_self, Nat.zero_add, Nat.le_refl, Nat.zero_le, List.length_cons, List.length_nil, true_and, and_true, true_or, or_true, eq_self, forall_const, true_implies, not_true_eq_false, not_false_eq_true, false_implies, implies_true, false_and, and_false, false_or, or_false, i10] at hQ ⊢ <;> exact hQ
theorem t_put {K : Cx} {d : Nat} {σ : Sg} {m : Mm} {l : Ml} {o : Nat} {i x : Int32} {Q : Rt} (hr : isRw σ o) (hs : spI (m o 3) i 1 = true) (hi : vp_in i 40) (hQ : Q (lnI (m o 2) x) σ (upM m (o + 1) i.toNatClampNeg (lnI (m o 2) x)) l) : CT K (d + 2) YX2_put [.ref o, .int i, .int x] σ m l Q := by
  have hr0 := hr
  obtain ⟨h1, h2, h3, h4⟩ := hr
  refine kX2_put ?_
  simp only [xX2_put_0, xX2_put_1, xX2_put_2, xX2_put_3, xX2_put_6, xX2_put_9, xX2_put_10, xX2_put_11, xX2_put_12, xX2_put_15, xX2_put_16, xX2_put_17, xX2_put_18, xX2_put_21, xX2_put_22, xX2_put_23, xX2_put_26, xX2_put_27, xX2_put_28, Bool.false_eq_true, if_true, if_false, kl_i, kl_a, kl_s, kl_u, kl_l, okS_nil, okS_cons, cat_i, cat_a, cat_s, cat_l, Nat.reduceAdd, Nat.reduceLeDiff, Nat.reduceSub, Nat.sub_zero, Nat.sub_self, Nat.zero_add, Nat.le_refl, Nat.zero_le, List.length_cons, List.length_nil, true_and, and_true, true_or, or_true, eq_self, forall_const, true_implies, not_true_eq_false, not_false_eq_true, false_implies, implies_true, false_and, and_false, false_or, or_false, h1]
  refine t_spans hr0 ?_
  simp only [xX2_put_0, xX2_put_1, xX2_put_2, xX2_put_3, xX2_put_6, xX2_put_9, xX2_put_10, xX2_put_11, xX2_put_12, xX2_put_15, xX2_put_16, xX2_put_17, xX2_put_18, xX2_put_21, xX2_put_22, xX2_put_23, xX2_put_26, xX2_put_27, xX2_put_28, Bool.false_eq_true, if_true, if_false, kl_i, kl_a, kl_s, kl_u, kl_l, okS_nil, okS_cons, cat_i, cat_a, cat_s, cat_l, Nat.reduceAdd, Nat.reduceLeDiff, Nat.reduceSub, Nat.sub_zero, Nat.sub_self, Nat.zero_add, Nat.le_refl, Nat.zero_le, List.length_cons, List.length_nil, true_and, and_true, true_or, or_true, eq_self, forall_const, true_implies, not_true_eq_false, not_false_eq_true, false_implies, implies_true, false_and, and_false, false_or, or_false, hs, h1, h2, i10]
  refine t_inLane hr0 ?_
  simp only [xX2_put_0, xX2_put_1, xX2_put_2, xX2_put_3, xX2_put_6, xX2_put_9, xX2_put_10, xX2_put_11, xX2_put_12, xX2_put_15, xX2_put_16, xX2_put_17, xX2_put_18, xX2_put_21, xX2_put_22, xX2_put_23, xX2_put_26, xX2_put_27, xX2_put_28, Bool.false_eq_true, if_true, if_false, kl_i, kl_a, kl_s, kl_u, kl_l, okS_nil, okS_cons, cat_i, cat_a, cat_s, cat_l, Nat.reduceAdd, Nat.reduceLeDiff, Nat.reduceSub, Nat.sub_zero, Nat.sub_self, Nat.zero_add, Nat.le_refl, Nat.zero_le, List.length_cons, List.length_nil, true_and, and_true, true_or, or_true, eq_self, forall_const, true_implies, not_true_eq_false, not_false_eq_true, false_implies, implies_true, false_and, and_false, false_or, or_false, h1, h2, h3, h4, hi, upM_s, upd_s]
  exact hQ
theorem l_make {K : Cx} {d : Nat} {σ : Sg} {m : Mm} {l : Ml} {o : Nat} {a b : Int32} {g : Nat → Int32} {Q : Rt} (hr : isRw σ o) : ∀ (k v : Nat), v + k = 40 → Q 0 σ (setR m (o + 1) (fun k => if k < 40 then 0 else g k)) l → WX (tX2_make K d) Q (17, [.ref o, .int a, .int b, .int (nI v)], [], (0, 0), σ, setR m (o + 1) (fun k => if k < v then 0 else g k), l) := by
  obtain ⟨h1, h2, h3, h4⟩ := hr
  intro k
  induction k with
  | zero =>
    intro v hv hQ
    obtain rfl : v = 40 := by omega
    have c1 : (nI 40 < 40) = False := eq_false (by decide)
    rw [xX2_make_17]
    simp only [xX2_make_0, xX2_make_1, xX2_make_2, xX2_make_5, xX2_make_6, xX2_make_7, xX2_make_10, xX2_make_11, xX2_make_12, xX2_make_15, xX2_make_16, xX2_make_18, xX2_make_20, xX2_make_23, xX2_make_24, xX2_make_27, xX2_make_28, xX2_make_29, xX2_make_30, xX2_make_33, xX2_make_36, Bool.false_eq_true, if_true, if_false, kl_i, kl_a, kl_s, kl_u, kl_l, okS_nil, okS_cons, cat_i, cat_a, cat_s, cat_l, Nat.reduceAdd, Nat.reduceLeDiff, Nat.reduceSub, Nat.sub_zero, Nat.sub_self, Nat.zero_add, Nat.le_refl, Nat.zero_le, List.length_cons, List.length_nil, true_and, and_true, true_or, or_true, eq_self, forall_const, true_implies, not_true_eq_false, not_false_eq_true, false_implies, implies_true, false_and, and_false, false_or, or_false, c1]
    exact hQ
  | succ k ih =>
    intro v hv hQ
    have c1 : (nI v < 40) = True := by
      have := ltN (a := v) (b := 40) (by omega) (by omega)
      exact this.trans (eq_true (by omega))
    have hcv := clN (v := v) (by omega)
    have hiv := inN (v := v) (n := 40) (by omega) (by omega)
    rw [xX2_make_17]
    simp only [xX2_make_0, xX2_make_1, xX2_make_2, xX2_make_5, xX2_make_6, xX2_make_7, xX2_make_10, xX2_make_11, xX2_make_12, xX2_make_15, xX2_make_16, xX2_make_18, xX2_make_20, xX2_make_23, xX2_make_24, xX2_make_27, xX2_make_28, xX2_make_29, xX2_make_30, xX2_make_33, xX2_make_36, Bool.false_eq_true, if_true, if_false, kl_i, kl_a, kl_s, kl_u, kl_l, okS_nil, okS_cons, cat_i, cat_a, cat_s, cat_l, Nat.reduceAdd, Nat.reduceLeDiff, Nat.reduceSub, Nat.sub_zero, Nat.sub_self, Nat.zero_add, Nat.le_refl, Nat.zero_le, List.length_cons, List.length_nil, true_and, and_true, true_or, or_true, eq_self, forall_const, true_implies, not_true_eq_false, not_false_eq_true, false_implies, implies_true, false_and, and_false, false_or, or_false, c1, h1, h2, h3, h4, hcv, hiv, upM_setR, setR_setR, setR_s, nI1]
    have e : upd (fun k => if k < v then 0 else g k) v 0 = (fun k => if k < v + 1 then 0 else g k) := by
      funext k
      simp only [upd]
      by_cases h : k = v
      · subst h; rw [if_pos rfl, if_pos (by omega)]
      · rw [if_neg h]
        by_cases h2 : k < v
        · rw [if_pos h2, if_pos (by omega)]
        · rw [if_neg h2, if_neg (by omega)]
    rw [e]
    exact ih (v + 1) (by omega) hQ
/-- a row made anew -/
def makeQ (m : Mm) (o : Nat) (a b : Int32) : Mm := setR (setR m o (upd (upd (upd (m o) 1 1) 2 a) 3 b)) (o + 1) (fun k => if k < 40 then 0 else m (o + 1) k)
theorem t_make {K : Cx} {d : Nat} {σ : Sg} {m : Mm} {l : Ml} {o : Nat} {a b : Int32} {Q : Rt} (hr : isRw σ o) (hQ : Q 0 σ (makeQ m o a b) l) : CT K (d + 1) YX2_make [.ref o, .int a, .int b] σ m l Q := by
  refine kX2_make ?_
  have := l_make (K := K) (d := d) (m := setR m o (upd (upd (upd (m o) 1 1) 2 a) 3 b)) (l := l) (a := a) (b := b) (g := m (o + 1)) hr 40 0 (by omega) hQ
  have e : setR (setR m o (upd (upd (upd (m o) 1 1) 2 a) 3 b)) (o + 1) (fun k => if k < 0 then 0 else m (o + 1) k) = setR m o (upd (upd (upd (m o) 1 1) 2 a) 3 b) := by
    simp only [Nat.not_lt_zero, if_false]
    have := setR_id (setR m o (upd (upd (upd (m o) 1 1) 2 a) 3 b)) (o + 1)
    rw [setR_n (b := o + 1) m _ (by omega)] at this
    exact this
  rw [e] at this
  simp only [xX2_make_0, xX2_make_1, xX2_make_2, xX2_make_5, xX2_make_6, xX2_make_7, xX2_make_10, xX2_make_11, xX2_make_12, xX2_make_15, xX2_make_16, xX2_make_18, xX2_make_20, xX2_make_23, xX2_make_24, xX2_make_27, xX2_make_28, xX2_make_29, xX2_make_30, xX2_make_33, xX2_make_36, Bool.false_eq_true, if_true, if_false, kl_i, kl_a, kl_s, kl_u, kl_l, okS_nil, okS_cons, cat_i, cat_a, cat_s, cat_l, Nat.reduceAdd, Nat.reduceLeDiff, Nat.reduceSub, Nat.sub_zero, Nat.sub_self, Nat.zero_add, Nat.le_refl, Nat.zero_le, List.length_cons, List.length_nil, true_and, and_true, true_or, or_true, eq_self, forall_const, true_implies, not_true_eq_false, not_false_eq_true, false_implies, implies_true, false_and, and_false, false_or, or_false, hr.1, upM_setR, setR_setR, setR_s, i10]
  exact this
def addQ (m : Mm) (t : Nat) (x : Int32) : Mm := if t < 16 then upM (upM m 198 t x) 197 1 (nI (t + 1)) else m
def wfL (σ : Sg) : Prop := isO σ 197 4 ∧ rf σ 197 0 = .ref 198 ∧ isO σ 198 100 ∧ ln σ 198 = 16
theorem t_add {K : Cx} {d : Nat} {σ : Sg} {m : Mm} {l : Ml} {t : Nat} {x : Int32} {Q : Rt} (hl : wfL σ) (ht : m 197 1 = nI t) (h16 : t ≤ 16) (hQ : Q 0 σ (addQ m t x) l) : CT K (d + 1) YX4_add [.ref 197, .int x] σ m l Q := by
  obtain ⟨h1, h2, h3, h4⟩ := hl
  refine kX4_add ?_
  have hcv := clN (v := t) (by omega)
  unfold addQ at hQ
  by_cases h : t < 16
  · have c1 : (nI t < 16) = True := (ltN (a := t) (b := 16) (by omega) (by omega)).trans (eq_true h)
    have hiv := inN (v := t) (n := 16) h (by omega)
    rw [if_pos h] at hQ
    have e : upM m 198 t x 197 1 = nI t := by rw [upM_n _ _ _ (by decide)]; exact ht
    simp only [xX4_add_0, xX4_add_1, xX4_add_4, xX4_add_6, xX4_add_9, xX4_add_10, xX4_add_13, xX4_add_14, xX4_add_17, xX4_add_18, xX4_add_19, xX4_add_20, xX4_add_21, xX4_add_24, xX4_add_25, xX4_add_26, xX4_add_29, Bool.false_eq_true, if_true, if_false, kl_i, kl_a, kl_s, kl_u, kl_l, okS_nil, okS_cons, cat_i, cat_a, cat_s, cat_l, Nat.reduceAdd, Nat.reduceLeDiff, Nat.reduceSub, Nat.sub_zero, Nat.sub_self, Nat.zero_add, Nat.le_refl, Nat.zero_le, List.length_cons, List.length_nil, true_and, and_true, true_or, or_true, eq_self, forall_const, true_implies, not_true_eq_false, not_false_eq_true, false_implies, implies_true, false_and, and_false, false_or, or_false, h1, h2, h3, h4, ht, c1, hcv, hiv, e, nI1]
    exact hQ
  · have c1 : (nI t < 16) = False := (ltN (a := t) (b := 16) (by omega) (by omega)).trans (eq_false h)
    rw [if_neg h] at hQ
    simp only [xX4_add_0, xX4_add_1, xX4_add_4, xX4_add_6, xX4_add_9, xX4_add_10, xX4_add_13, xX4_add_14, xX4_add_17, xX4_add_18, xX4_add_19, xX4_add_20, xX4_add_21, xX4_add_24, xX4_add_25, xX4_add_26, xX4_add_29, Bool.false_eq_true, if_true, if_false, kl_i, kl_a, kl_s, kl_u, kl_l, okS_nil, okS_cons, cat_i, cat_a, cat_s, cat_l, Nat.reduceAdd, Nat.reduceLeDiff, Nat.reduceSub, Nat.sub_zero, Nat.sub_self, Nat.zero_add, Nat.le_refl, Nat.zero_le, List.length_cons, List.length_nil, true_and, and_true, true_or, or_true, eq_self, forall_const, true_implies, not_true_eq_false, not_false_eq_true, false_implies, implies_true, false_and, and_false, false_or, or_false, h1, h2, h3, h4, ht, c1]
    exact hQ
def wfA (σ : Sg) : Prop := isO σ 51 0 ∧ rf σ 51 0 = .ref 52 ∧ isO σ 52 111 ∧ ln σ 52 = 24 ∧ ∀ k, k < 24 → rf σ 52 k = .ref (53 + 6 * k) ∧ isP σ (53 + 6 * k)
theorem t_forgetAll {K : Cx} {d : Nat} {σ : Sg} {m : Mm} {l : Ml} {Q : Rt} (ha : wfA σ) (hQ : Q 0 σ (upM m 51 2 0) l) : CT K (d + 1) YX0_forgetAll [.ref 51] σ m l Q := by
  refine kX0_forgetAll ?_
  simp only [xX0_forgetAll_0, xX0_forgetAll_1, xX0_forgetAll_2, xX0_forgetAll_5, Bool.false_eq_true, if_true, if_false, kl_i, kl_a, kl_s, kl_u, kl_l, okS_nil, okS_cons, cat_i, cat_a, cat_s, cat_l, Nat.reduceAdd, Nat.reduceLeDiff, Nat.reduceSub, Nat.sub_zero, Nat.sub_self, Nat.zero_add, Nat.le_refl, Nat.zero_le, List.length_cons, List.length_nil, true_and, and_true, true_or, or_true, eq_self, forall_const, true_implies, not_true_eq_false, not_false_eq_true, false_implies, implies_true, false_and, and_false, false_or, or_false, ha.1]
  exact hQ
def keepQ (m : Mm) (p X : Nat) : Mm := upM (upM (putP m (53 + 6 * X) (takeQ (getP m (53 + 6 * X)) (getP m p))) 51 1 (nI (if X + 1 < 24 then X + 1 else 0))) 51 2 (mnI 24 (m 51 2 + 1))
theorem t_keep {K : Cx} {d : Nat} {σ : Sg} {m : Mm} {l : Ml} {p X : Nat} {Q : Rt} (ha : wfA σ) (hp : isP σ p) (hpl : p + 6 ≤ 53) (hz : m p 5 = 0 ∨ m p 5 = 1) (hX : m 51 1 = nI X) (h24 : X < 24) (hQ : Q 0 σ (keepQ m p X) l) : CT K (d + 2) YX0_keep [.ref 51, .ref p] σ m l Q := by
  obtain ⟨h1, h2, h3, h4, h5⟩ := ha
  obtain ⟨g1, g2⟩ := h5 X h24
  refine kX0_keep ?_
  have hcv := clN (v := X) (by omega)
  have hiv := inN (v := X) (n := 24) h24 (by omega)
  simp only [xX0_keep_0, xX0_keep_1, xX0_keep_4, xX0_keep_5, xX0_keep_8, xX0_keep_9, xX0_keep_10, xX0_keep_13, xX0_keep_14, xX0_keep_15, xX0_keep_18, xX0_keep_19, xX0_keep_20, xX0_keep_22, xX0_keep_25, xX0_keep_26, xX0_keep_29, xX0_keep_30, xX0_keep_31, xX0_keep_34, xX0_keep_35, xX0_keep_38, xX0_keep_39, xX0_keep_41, xX0_keep_42, xX0_keep_45, xX0_keep_46, xX0_keep_47, xX0_keep_50, xX0_keep_53, Bool.false_eq_true, if_true, if_false, kl_i, kl_a, kl_s, kl_u, kl_l, okS_nil, okS_cons, cat_i, cat_a, cat_s, cat_l, Nat.reduceAdd, Nat.reduceLeDiff, Nat.reduceSub, Nat.sub_zero, Nat.sub_self, Nat.zero_add, Nat.le_refl, Nat.zero_le, List.length_cons, List.length_nil, true_and, and_true, true_or, or_true, eq_self, forall_const, true_implies, not_true_eq_false, not_false_eq_true, false_implies, implies_true, false_and, and_false, false_or, or_false, h1, h2, h3, h4, hX, hcv, hiv, g1, g2.1]
  refine t_take g2 hp (by omega) hz ?_
  have e1 : putP m (53 + 6 * X) (takeQ (getP m (53 + 6 * X)) (getP m p)) 51 = m 51 := putP_o _ _ (by omega)
  simp only [xX0_keep_0, xX0_keep_1, xX0_keep_4, xX0_keep_5, xX0_keep_8, xX0_keep_9, xX0_keep_10, xX0_keep_13, xX0_keep_14, xX0_keep_15, xX0_keep_18, xX0_keep_19, xX0_keep_20, xX0_keep_22, xX0_keep_25, xX0_keep_26, xX0_keep_29, xX0_keep_30, xX0_keep_31, xX0_keep_34, xX0_keep_35, xX0_keep_38, xX0_keep_39, xX0_keep_41, xX0_keep_42, xX0_keep_45, xX0_keep_46, xX0_keep_47, xX0_keep_50, xX0_keep_53, Bool.false_eq_true, if_true, if_false, kl_i, kl_a, kl_s, kl_u, kl_l, okS_nil, okS_cons, cat_i, cat_a, cat_s, cat_l, Nat.reduceAdd, Nat.reduceLeDiff, Nat.reduceSub, Nat.sub_zero, Nat.sub_self, Nat.zero_add, Nat.le_refl, Nat.zero_le, List.length_cons, List.length_nil, true_and, and_true, true_or, or_true, eq_self, forall_const, true_implies, not_true_eq_false, not_false_eq_true, false_implies, implies_true, false_and, and_false, false_or, or_false, h1, h2, h3, h4, e1, hX, nI1, mnI_f, upM_s, upd]
  rw [keepQ] at hQ
  have c : (nI (X + 1) < 24) = (X + 1 < 24) := ltN (a := X + 1) (b := 24) (by omega) (by omega)
  rw [c]
  refine ⟨fun h => ?_, fun h => ?_⟩
  · rw [if_pos h] at hQ
    simp only [upM_s, upd, e1, Nat.reduceEqDiff, Bool.false_eq_true, if_true, if_false, kl_i, kl_a, kl_s, kl_u, kl_l, okS_nil, okS_cons, cat_i, cat_a, cat_s, cat_l, Nat.reduceAdd, Nat.reduceLeDiff, Nat.reduceSub, Nat.sub_zero, Nat.sub_self, Nat.zero_add, Nat.le_refl, Nat.zero_le, List.length_cons, List.length_nil, true_and, and_true, true_or, or_true, eq_self, forall_const, true_implies, not_true_eq_false, not_false_eq_true, false_implies, implies_true, false_and, and_false, false_or, or_false]
    exact hQ
  · rw [if_neg h] at hQ
    simp only [upM_s, upd, e1, Nat.reduceEqDiff, Bool.false_eq_true, if_true, if_false, kl_i, kl_a, kl_s, kl_u, kl_l, okS_nil, okS_cons, cat_i, cat_a, cat_s, cat_l, Nat.reduceAdd, Nat.reduceLeDiff, Nat.reduceSub, Nat.sub_zero, Nat.sub_self, Nat.zero_add, Nat.le_refl, Nat.zero_le, List.length_cons, List.length_nil, true_and, and_true, true_or, or_true, eq_self, forall_const, true_implies, not_true_eq_false, not_false_eq_true, false_implies, implies_true, false_and, and_false, false_or, or_false]
    exact hQ
def backQ (m : Mm) (p X A : Nat) : Mm := putP (upM (upM m 51 1 (nI X)) 51 2 (nI A)) p (takeQ (getP m p) (getP m (53 + 6 * X)))
theorem t_bringBack {K : Cx} {d : Nat} {σ : Sg} {m : Mm} {l : Ml} {p X A : Nat} {Q : Rt} (ha : wfA σ) (hp : isP σ p) (hpl : p + 6 ≤ 51) (hX : m 51 1 = nI (if X + 1 < 24 then X + 1 else 0)) (h24 : X < 24) (hA : m 51 2 = nI (A + 1)) (hA24 : A < 24) (hz : m (53 + 6 * X) 5 = 0 ∨ m (53 + 6 * X) 5 = 1) (hQ : Q 0 σ (backQ m p X A) l) : CT K (d + 2) YX0_bringBack [.ref 51, .ref p] σ m l Q := by
  obtain ⟨h1, h2, h3, h4, h5⟩ := ha
  obtain ⟨g1, g2⟩ := h5 X h24
  refine kX0_bringBack ?_
  have hcv := clN (v := X) (by omega)
  have hiv := inN (v := X) (n := 24) h24 (by omega)
  have c0 : (0 < nI (A + 1)) = True := (ltN (a := 0) (b := A + 1) (by omega) (by omega)).trans (eq_true (by omega))
  have eA : nI (A + 1) - 1 = nI A := nI_pred A
  have key : CT K (d + 1) YX1_take [.ref p, .ref (53 + 6 * X)] σ (upM (upM m 51 1 (nI X)) 51 2 (nI A)) l (fun _ σ m l => Q 0 σ m l) := by
    refine t_take hp g2 (by omega) ?_ ?_
    · rw [upM_n _ _ _ (by omega), upM_n _ _ _ (by omega)]
      exact hz
    · have e1 : getP (upM (upM m 51 1 (nI X)) 51 2 (nI A)) p = getP m p ∨ True := Or.inr trivial
      have e2 : putP (upM (upM m 51 1 (nI X)) 51 2 (nI A)) p (takeQ (getP (upM (upM m 51 1 (nI X)) 51 2 (nI A)) p) (getP (upM (upM m 51 1 (nI X)) 51 2 (nI A)) (53 + 6 * X))) = backQ m p X A := by
        unfold backQ
        funext b
        simp only [putP]
        by_cases hb : p ≤ b ∧ b < p + 6
        · rw [if_pos hb, if_pos hb]
          have f1 : ∀ j, j < 6 → getP (upM (upM m 51 1 (nI X)) 51 2 (nI A)) p j = getP m p j := fun j hj => by
            simp only [getP]
            rw [upM_n _ _ _ (by omega), upM_n _ _ _ (by omega)]
          have f2 : ∀ j, getP (upM (upM m 51 1 (nI X)) 51 2 (nI A)) (53 + 6 * X) j = getP m (53 + 6 * X) j := fun j => by
            simp only [getP]
            rw [upM_n _ _ _ (by omega), upM_n _ _ _ (by omega)]
          funext k
          simp only [takeQ, takeL, f1 _ (show b - p < 6 by omega), f2]
        · rw [if_neg hb, if_neg hb]
      rw [e2]
      exact hQ
  by_cases h : X + 1 < 24
  · rw [if_pos h] at hX
    have c1 : (0 < nI (X + 1)) = True := (ltN (a := 0) (b := X + 1) (by omega) (by omega)).trans (eq_true (by omega))
    have eX : nI (X + 1) - 1 = nI X := nI_pred X
    simp only [xX0_bringBack_0, xX0_bringBack_1, xX0_bringBack_4, xX0_bringBack_7, xX0_bringBack_8, xX0_bringBack_9, xX0_bringBack_12, xX0_bringBack_15, xX0_bringBack_16, xX0_bringBack_19, xX0_bringBack_20, xX0_bringBack_21, xX0_bringBack_24, xX0_bringBack_26, xX0_bringBack_29, xX0_bringBack_30, xX0_bringBack_31, xX0_bringBack_34, xX0_bringBack_35, xX0_bringBack_36, xX0_bringBack_39, xX0_bringBack_40, xX0_bringBack_41, xX0_bringBack_44, xX0_bringBack_45, xX0_bringBack_48, xX0_bringBack_49, xX0_bringBack_52, Bool.false_eq_true, if_true, if_false, kl_i, kl_a, kl_s, kl_u, kl_l, okS_nil, okS_cons, cat_i, cat_a, cat_s, cat_l, Nat.reduceAdd, Nat.reduceLeDiff, Nat.reduceSub, Nat.sub_zero, Nat.sub_self, Nat.zero_add, Nat.le_refl, Nat.zero_le, List.length_cons, List.length_nil, true_and, and_true, true_or, or_true, eq_self, forall_const, true_implies, not_true_eq_false, not_false_eq_true, false_implies, implies_true, false_and, and_false, false_or, or_false, h1, h2, h3, h4, hX, hA, c0, c1, eX, eA, upM_s, upd, Nat.reduceEqDiff, hcv, hiv, g1, hp.1]
    exact key
  · rw [if_neg h] at hX
    obtain rfl : X = 23 := by omega
    have c1 : (0 < nI 0) = False := eq_false (by decide)
    simp only [xX0_bringBack_0, xX0_bringBack_1, xX0_bringBack_4, xX0_bringBack_7, xX0_bringBack_8, xX0_bringBack_9, xX0_bringBack_12, xX0_bringBack_15, xX0_bringBack_16, xX0_bringBack_19, xX0_bringBack_20, xX0_bringBack_21, xX0_bringBack_24, xX0_bringBack_26, xX0_bringBack_29, xX0_bringBack_30, xX0_bringBack_31, xX0_bringBack_34, xX0_bringBack_35, xX0_bringBack_36, xX0_bringBack_39, xX0_bringBack_40, xX0_bringBack_41, xX0_bringBack_44, xX0_bringBack_45, xX0_bringBack_48, xX0_bringBack_49, xX0_bringBack_52, Bool.false_eq_true, if_true, if_false, kl_i, kl_a, kl_s, kl_u, kl_l, okS_nil, okS_cons, cat_i, cat_a, cat_s, cat_l, Nat.reduceAdd, Nat.reduceLeDiff, Nat.reduceSub, Nat.sub_zero, Nat.sub_self, Nat.zero_add, Nat.le_refl, Nat.zero_le, List.length_cons, List.length_nil, true_and, and_true, true_or, or_true, eq_self, forall_const, true_implies, not_true_eq_false, not_false_eq_true, false_implies, implies_true, false_and, and_false, false_or, or_false, h1, h2, h3, h4, hX, hA, c0, c1, eA, upM_s, upd, Nat.reduceEqDiff, hp.1]
    have g1' : rf σ 52 23 = .ref (53 + 6 * 23) := g1
    have hcv' : Int32.toNatClampNeg 23 = 23 := by decide
    have hiv' : vp_in 23 24 := inN (v := 23) (n := 24) (by omega) (by omega)
    simp only [xX0_bringBack_0, xX0_bringBack_1, xX0_bringBack_4, xX0_bringBack_7, xX0_bringBack_8, xX0_bringBack_9, xX0_bringBack_12, xX0_bringBack_15, xX0_bringBack_16, xX0_bringBack_19, xX0_bringBack_20, xX0_bringBack_21, xX0_bringBack_24, xX0_bringBack_26, xX0_bringBack_29, xX0_bringBack_30, xX0_bringBack_31, xX0_bringBack_34, xX0_bringBack_35, xX0_bringBack_36, xX0_bringBack_39, xX0_bringBack_40, xX0_bringBack_41, xX0_bringBack_44, xX0_bringBack_45, xX0_bringBack_48, xX0_bringBack_49, xX0_bringBack_52, Bool.false_eq_true, if_true, if_false, kl_i, kl_a, kl_s, kl_u, kl_l, okS_nil, okS_cons, cat_i, cat_a, cat_s, cat_l, Nat.reduceAdd, Nat.reduceLeDiff, Nat.reduceSub, Nat.sub_zero, Nat.sub_self, Nat.zero_add, Nat.le_refl, Nat.zero_le, List.length_cons, List.length_nil, true_and, and_true, true_or, or_true, eq_self, forall_const, true_implies, not_true_eq_false, not_false_eq_true, false_implies, implies_true, false_and, and_false, false_or, or_false, h1, h2, h3, h4, hcv', hiv', g1', hp.1]
    exact key
theorem t_isRow {K : Cx} {d : Nat} {σ : Sg} {m : Mm} {l : Ml} {r : Int32} {Q : Rt} (hQ : Q (if ¬ r < 0 ∧ r < 8 then 1 else 0) σ m l) : CT K (d + 1) YX5_isRow [.int r] σ m l Q := by
  refine kX5_isRow ?_
  simp only [xX5_isRow_0, xX5_isRow_1, xX5_isRow_4, xX5_isRow_5, xX5_isRow_7, xX5_isRow_10, xX5_isRow_11, xX5_isRow_14, xX5_isRow_15, Bool.false_eq_true, if_true, if_false, kl_i, kl_a, kl_s, kl_u, kl_l, okS_nil, okS_cons, cat_i, cat_a, cat_s, cat_l, Nat.reduceAdd, Nat.reduceLeDiff, Nat.reduceSub, Nat.sub_zero, Nat.sub_self, Nat.zero_add, Nat.le_refl, Nat.zero_le, List.length_cons, List.length_nil, true_and, and_true, true_or, or_true, eq_self, forall_const, true_implies, not_true_eq_false, not_false_eq_true, false_implies, implies_true, false_and, and_false, false_or, or_false]
  by_cases h : r < 0
  · simp only [h, Bool.false_eq_true, if_true, if_false, kl_i, kl_a, kl_s, kl_u, kl_l, okS_nil, okS_cons, cat_i, cat_a, cat_s, cat_l, Nat.reduceAdd, Nat.reduceLeDiff, Nat.reduceSub, Nat.sub_zero, Nat.sub_self, Nat.zero_add, Nat.le_refl, Nat.zero_le, List.length_cons, List.length_nil, true_and, and_true, true_or, or_true, eq_self, forall_const, true_implies, not_true_eq_false, not_false_eq_true, false_implies, implies_true, false_and, and_false, false_or, or_false] at hQ ⊢
    exact hQ
  · by_cases h2 : r < 8 <;> simp only [h, h2, Bool.false_eq_true, if_true, if_false, kl_i, kl_a, kl_s, kl_u, kl_l, okS_nil, okS_cons, cat_i, cat_a, cat_s, cat_l, Nat.reduceAdd, Nat.reduceLeDiff, Nat.reduceSub, Nat.sub_zero, Nat.sub_self, Nat.zero_add, Nat.le_refl, Nat.zero_le, List.length_cons, List.length_nil, true_and, and_true, true_or, or_true, eq_self, forall_const, true_implies, not_true_eq_false, not_false_eq_true, false_implies, implies_true, false_and, and_false, false_or, or_false] at hQ ⊢ <;> exact hQ
theorem t_found {K : Cx} {d : Nat} {σ : Sg} {m : Mm} {l : Ml} {x : Int32} {Q : Rt} (h0 : isO σ 0 5) (hQ : Q (-1000010 - x) σ (upM m 0 9 x) l) : CT K (d + 1) YX5_found [.ref 0, .int x] σ m l Q := by
  refine kX5_found ?_
  simp only [xX5_found_0, xX5_found_1, xX5_found_2, xX5_found_5, xX5_found_7, xX5_found_8, xX5_found_9, Bool.false_eq_true, if_true, if_false, kl_i, kl_a, kl_s, kl_u, kl_l, okS_nil, okS_cons, cat_i, cat_a, cat_s, cat_l, Nat.reduceAdd, Nat.reduceLeDiff, Nat.reduceSub, Nat.sub_zero, Nat.sub_self, Nat.zero_add, Nat.le_refl, Nat.zero_le, List.length_cons, List.length_nil, true_and, and_true, true_or, or_true, eq_self, forall_const, true_implies, not_true_eq_false, not_false_eq_true, false_implies, implies_true, false_and, and_false, false_or, or_false, h0]
  exact hQ
def nkI (k : Int32) : Int32 := if k = 2 then 1 else if k = 3 then 1 else if k = 4 then 0 else if k = 5 then 4 else 0
theorem t_nextKind {K : Cx} {d : Nat} {σ : Sg} {m : Mm} {l : Ml} {x : Int32} {Q : Rt} (hQ : Q (nkI x) σ m l) : CT K (d + 1) YX5_nextKind [.int x] σ m l Q := by
  refine kX5_nextKind ?_
  simp only [xX5_nextKind_0, xX5_nextKind_1, xX5_nextKind_32, xX5_nextKind_33, xX5_nextKind_34, xX5_nextKind_35, xX5_nextKind_36, xX5_nextKind_37, Bool.false_eq_true, if_true, if_false, kl_i, kl_a, kl_s, kl_u, kl_l, okS_nil, okS_cons, cat_i, cat_a, cat_s, cat_l, Nat.reduceAdd, Nat.reduceLeDiff, Nat.reduceSub, Nat.sub_zero, Nat.sub_self, Nat.zero_add, Nat.le_refl, Nat.zero_le, List.length_cons, List.length_nil, true_and, and_true, true_or, or_true, eq_self, forall_const, true_implies, not_true_eq_false, not_false_eq_true, false_implies, implies_true, false_and, and_false, false_or, or_false]
  unfold nkI at hQ
  by_cases h2 : x = 2
  · subst h2; exact ⟨fun _ => hQ, fun h => absurd rfl h⟩
  refine ⟨fun h => absurd h h2, fun _ => ?_⟩
  rw [if_neg h2] at hQ
  by_cases h3 : x = 3
  · subst h3; exact ⟨fun _ => hQ, fun h => absurd rfl h⟩
  refine ⟨fun h => absurd h h3, fun _ => ?_⟩
  rw [if_neg h3] at hQ
  by_cases h4 : x = 4
  · subst h4; exact ⟨fun _ => hQ, fun h => absurd rfl h⟩
  refine ⟨fun h => absurd h h4, fun _ => ?_⟩
  rw [if_neg h4] at hQ
  by_cases h5 : x = 5
  · subst h5; exact ⟨fun _ => hQ, fun h => absurd rfl h⟩
  refine ⟨fun h => absurd h h5, fun _ => ?_⟩
  rw [if_neg h5] at hQ
  exact hQ
def ioI (k a : Int32) : Bool := decide (k = a) || decide (nkI k = a) || decide (a = 0)
theorem t_isOne {K : Cx} {d : Nat} {σ : Sg} {m : Mm} {l : Ml} {x y : Int32} {Q : Rt} (hQ : Q (if ioI x y then 1 else 0) σ m l) : CT K (d + 2) YX5_isOne [.int x, .int y] σ m l Q := by
  refine kX5_isOne ?_
  simp only [xX5_isOne_0, xX5_isOne_1, xX5_isOne_2, xX5_isOne_5, xX5_isOne_6, xX5_isOne_9, xX5_isOne_10, xX5_isOne_13, xX5_isOne_14, xX5_isOne_17, xX5_isOne_18, xX5_isOne_21, xX5_isOne_22, Bool.false_eq_true, if_true, if_false, kl_i, kl_a, kl_s, kl_u, kl_l, okS_nil, okS_cons, cat_i, cat_a, cat_s, cat_l, Nat.reduceAdd, Nat.reduceLeDiff, Nat.reduceSub, Nat.sub_zero, Nat.sub_self, Nat.zero_add, Nat.le_refl, Nat.zero_le, List.length_cons, List.length_nil, true_and, and_true, true_or, or_true, eq_self, forall_const, true_implies, not_true_eq_false, not_false_eq_true, false_implies, implies_true, false_and, and_false, false_or, or_false]
  unfold ioI at hQ
  by_cases h1 : x = y
  · subst h1
    simp only [Bool.false_eq_true, if_true, if_false, kl_i, kl_a, kl_s, kl_u, kl_l, okS_nil, okS_cons, cat_i, cat_a, cat_s, cat_l, Nat.reduceAdd, Nat.reduceLeDiff, Nat.reduceSub, Nat.sub_zero, Nat.sub_self, Nat.zero_add, Nat.le_refl, Nat.zero_le, List.length_cons, List.length_nil, true_and, and_true, true_or, or_true, eq_self, forall_const, true_implies, not_true_eq_false, not_false_eq_true, false_implies, implies_true, false_and, and_false, false_or, or_false, decide_true, Bool.true_or] at hQ ⊢
    exact hQ
  · refine ⟨fun h => absurd h h1, fun _ => ?_⟩
    refine t_nextKind ?_
    simp only [h1, decide_false, Bool.false_or] at hQ
    by_cases h2 : nkI x = y
    · simp only [h2, decide_true, Bool.true_or, Bool.false_eq_true, if_true, if_false, kl_i, kl_a, kl_s, kl_u, kl_l, okS_nil, okS_cons, cat_i, cat_a, cat_s, cat_l, Nat.reduceAdd, Nat.reduceLeDiff, Nat.reduceSub, Nat.sub_zero, Nat.sub_self, Nat.zero_add, Nat.le_refl, Nat.zero_le, List.length_cons, List.length_nil, true_and, and_true, true_or, or_true, eq_self, forall_const, true_implies, not_true_eq_false, not_false_eq_true, false_implies, implies_true, false_and, and_false, false_or, or_false] at hQ ⊢
      exact hQ
    · by_cases h3 : y = 0
      · simp only [h3, decide_true, Bool.or_true, Bool.false_eq_true, if_true, if_false, kl_i, kl_a, kl_s, kl_u, kl_l, okS_nil, okS_cons, cat_i, cat_a, cat_s, cat_l, Nat.reduceAdd, Nat.reduceLeDiff, Nat.reduceSub, Nat.sub_zero, Nat.sub_self, Nat.zero_add, Nat.le_refl, Nat.zero_le, List.length_cons, List.length_nil, true_and, and_true, true_or, or_true, eq_self, forall_const, true_implies, not_true_eq_false, not_false_eq_true, false_implies, implies_true, false_and, and_false, false_or, or_false] at hQ ⊢
        exact ⟨fun _ => hQ, fun _ => hQ⟩
      · simp only [h2, h3, decide_false, Bool.or_self, Bool.false_eq_true, if_true, if_false, kl_i, kl_a, kl_s, kl_u, kl_l, okS_nil, okS_cons, cat_i, cat_a, cat_s, cat_l, Nat.reduceAdd, Nat.reduceLeDiff, Nat.reduceSub, Nat.sub_zero, Nat.sub_self, Nat.zero_add, Nat.le_refl, Nat.zero_le, List.length_cons, List.length_nil, true_and, and_true, true_or, or_true, eq_self, forall_const, true_implies, not_true_eq_false, not_false_eq_true, false_implies, implies_true, false_and, and_false, false_or, or_false] at hQ ⊢
        exact hQ
