/-! the model: copies, days and nights of a plain in a row of 40 -/
theorem lg_l (x y : Int64) : (lg_cmp x y < 0) = (x < y) := by
  unfold lg_cmp
  by_cases h1 : y < x
  · have : ¬ x < y := fun q => Int64.lt_irrefl (Int64.lt_trans h1 q)
    rw [if_pos h1]
    exact propext ⟨fun q => absurd q (by decide), fun q => absurd q this⟩
  · rw [if_neg h1]
    by_cases h2 : x = y
    · subst h2
      rw [if_pos rfl]
      exact propext ⟨fun q => absurd q (by decide), fun q => absurd q h1⟩
    · rw [if_neg h2]
      refine propext ⟨fun _ => ?_, fun _ => by decide⟩
      have h3 := Int64.not_lt.mp h1
      exact Int64.lt_of_le_of_ne h3 h2
theorem lg_g (x y : Int64) : (0 < lg_cmp x y) = (y < x) := by
  unfold lg_cmp
  by_cases h1 : y < x
  · rw [if_pos h1]
    exact propext ⟨fun _ => h1, fun _ => by decide⟩
  · rw [if_neg h1]
    by_cases h2 : x = y
    · rw [if_pos h2]
      exact propext ⟨fun q => absurd q (by decide), fun q => absurd q h1⟩
    · rw [if_neg h2]
      exact propext ⟨fun q => absurd q (by decide), fun q => absurd q h1⟩
theorem lg_e (x y : Int64) : (lg_cmp x y = 0) = (x = y) := by
  unfold lg_cmp
  by_cases h1 : y < x
  · rw [if_pos h1]
    refine propext ⟨fun q => absurd q (by decide), fun q => ?_⟩
    subst q
    exact absurd h1 (Int64.lt_irrefl)
  · rw [if_neg h1]
    by_cases h2 : x = y
    · rw [if_pos h2]
      exact propext ⟨fun _ => h2, fun _ => rfl⟩
    · rw [if_neg h2]
      exact propext ⟨fun q => absurd q (by decide), fun q => absurd q h2⟩
theorem w64 (a b : Int32) : (a.toInt64 < b.toInt64) = (a < b) := by
  refine propext ?_
  rw [Int64.lt_iff_toInt_lt, Int32.lt_iff_toInt_lt, Int32.toInt_toInt64, Int32.toInt_toInt64]
theorem t_in {K : Cx} {d : Nat} {σ : Sg} {m : Mm} {l : Ml} {v A B : Int64} {Q : Rt} (hQ : Q (if ¬ v < A ∧ ¬ B < v then 1 else 0) σ m l) : CT K (d + 1) YX6_in [.long v, .long A, .long B] σ m l Q := by
  refine kX6_in ?_
  simp only [xX6_in_0, xX6_in_1, xX6_in_2, xX6_in_3, xX6_in_6, xX6_in_7, xX6_in_9, xX6_in_10, xX6_in_13, xX6_in_14, xX6_in_17, xX6_in_18, Bool.false_eq_true, if_true, if_false, kl_i, kl_a, kl_s, kl_u, kl_l, okS_nil, okS_cons, cat_i, cat_a, cat_s, cat_l, Nat.reduceAdd, Nat.reduceLeDiff, Nat.reduceSub, Nat.sub_zero, Nat.sub_self, Nat.zero_add, Nat.le_refl, Nat.zero_le, List.length_cons, List.length_nil, true_and, and_true, true_or, or_true, eq_self, forall_const, true_implies, not_true_eq_false, not_false_eq_true, false_implies, implies_true, false_and, and_false, false_or, or_false, lg_l, lg_g]
  by_cases h : v < A
  · simp only [h, Bool.false_eq_true, if_true, if_false, kl_i, kl_a, kl_s, kl_u, kl_l, okS_nil, okS_cons, cat_i, cat_a, cat_s, cat_l, Nat.reduceAdd, Nat.reduceLeDiff, Nat.reduceSub, Nat.sub_zero, Nat.sub_self, Nat.zero_add, Nat.le_refl, Nat.zero_le, List.length_cons, List.length_nil, true_and, and_true, true_or, or_true, eq_self, forall_const, true_implies, not_true_eq_false, not_false_eq_true, false_implies, implies_true, false_and, and_false, false_or, or_false] at hQ ⊢
    exact hQ
  · by_cases h2 : B < v <;> simp only [h, h2, Bool.false_eq_true, if_true, if_false, kl_i, kl_a, kl_s, kl_u, kl_l, okS_nil, okS_cons, cat_i, cat_a, cat_s, cat_l, Nat.reduceAdd, Nat.reduceLeDiff, Nat.reduceSub, Nat.sub_zero, Nat.sub_self, Nat.zero_add, Nat.le_refl, Nat.zero_le, List.length_cons, List.length_nil, true_and, and_true, true_or, or_true, eq_self, forall_const, true_implies, not_true_eq_false, not_false_eq_true, false_implies, implies_true, false_and, and_false, false_or, or_false] at hQ ⊢ <;> exact hQ
theorem t_inI {K : Cx} {d : Nat} {σ : Sg} {m : Mm} {l : Ml} {v a b : Int32} {A B : Int64} {Q : Rt} (hA : A = a.toInt64) (hB : B = b.toInt64) (hQ : Q (if ¬ v < a ∧ ¬ b < v then 1 else 0) σ m l) : CT K (d + 1) YX6_in [.long v.toInt64, .long A, .long B] σ m l Q := by
  subst hA hB
  refine t_in ?_
  simp only [w64]
  exact hQ
theorem t_mFound {K : Cx} {d : Nat} {σ : Sg} {m : Mm} {l : Ml} {x : Int32} {Q : Rt} (h0 : isO σ 199 6) (hQ : Q (-1000010 - x) σ (upM m 199 3 x) l) : CT K (d + 1) YX6_found [.ref 199, .int x] σ m l Q := by
  refine kX6_found ?_
  simp only [xX6_found_0, xX6_found_1, xX6_found_2, xX6_found_5, xX6_found_7, xX6_found_8, xX6_found_9, Bool.false_eq_true, if_true, if_false, kl_i, kl_a, kl_s, kl_u, kl_l, okS_nil, okS_cons, cat_i, cat_a, cat_s, cat_l, Nat.reduceAdd, Nat.reduceLeDiff, Nat.reduceSub, Nat.sub_zero, Nat.sub_self, Nat.zero_add, Nat.le_refl, Nat.zero_le, List.length_cons, List.length_nil, true_and, and_true, true_or, or_true, eq_self, forall_const, true_implies, not_true_eq_false, not_false_eq_true, false_implies, implies_true, false_and, and_false, false_or, or_false, h0]
  exact hQ
theorem t_mWell {K : Cx} {d : Nat} {σ : Sg} {m : Mm} {l : Ml} {x : Int32} {Q : Rt} (h0 : isO σ 199 6) (hQ : Q x σ (upM m 199 3 0) l) : CT K (d + 1) YX6_well [.ref 199, .int x] σ m l Q := by
  refine kX6_well ?_
  simp only [xX6_well_0, xX6_well_1, xX6_well_2, xX6_well_5, xX6_well_6, Bool.false_eq_true, if_true, if_false, kl_i, kl_a, kl_s, kl_u, kl_l, okS_nil, okS_cons, cat_i, cat_a, cat_s, cat_l, Nat.reduceAdd, Nat.reduceLeDiff, Nat.reduceSub, Nat.sub_zero, Nat.sub_self, Nat.zero_add, Nat.le_refl, Nat.zero_le, List.length_cons, List.length_nil, true_and, and_true, true_or, or_true, eq_self, forall_const, true_implies, not_true_eq_false, not_false_eq_true, false_implies, implies_true, false_and, and_false, false_or, or_false, h0]
  exact hQ
theorem if01 (c : Prop) [Decidable c] : ((if c then (1 : Int32) else 0) = 0 ∨ (if c then (1 : Int32) else 0) = 1) = True := by
  by_cases h : c <;> simp [h]
theorem t_mIsRow {K : Cx} {d : Nat} {σ : Sg} {m : Mm} {l : Ml} {x : Int32} {Q : Rt} (hQ : Q (if ¬ x < 0 ∧ x < 8 then 1 else 0) σ m l) : CT K (d + 2) YX6_isRow [.int x] σ m l Q := by
  refine kX6_isRow ?_
  simp only [xX6_isRow_0, xX6_isRow_1, xX6_isRow_2, xX6_isRow_3, xX6_isRow_6, xX6_isRow_9, Bool.false_eq_true, if_true, if_false, kl_i, kl_a, kl_s, kl_u, kl_l, okS_nil, okS_cons, cat_i, cat_a, cat_s, cat_l, Nat.reduceAdd, Nat.reduceLeDiff, Nat.reduceSub, Nat.sub_zero, Nat.sub_self, Nat.zero_add, Nat.le_refl, Nat.zero_le, List.length_cons, List.length_nil, true_and, and_true, true_or, or_true, eq_self, forall_const, true_implies, not_true_eq_false, not_false_eq_true, false_implies, implies_true, false_and, and_false, false_or, or_false]
  refine t_inI (a := 0) (b := 7) rfl rfl ?_
  have e : (¬ (7 : Int32) < x) = (x < 8) := by
    refine propext ?_
    rw [Int32.lt_iff_toInt_lt, Int32.lt_iff_toInt_lt]
    have h1 : (7 : Int32).toInt = 7 := by decide
    have h2 : (8 : Int32).toInt = 8 := by decide
    omega
  simp only [xX6_isRow_0, xX6_isRow_1, xX6_isRow_2, xX6_isRow_3, xX6_isRow_6, xX6_isRow_9, Bool.false_eq_true, if_true, if_false, kl_i, kl_a, kl_s, kl_u, kl_l, okS_nil, okS_cons, cat_i, cat_a, cat_s, cat_l, Nat.reduceAdd, Nat.reduceLeDiff, Nat.reduceSub, Nat.sub_zero, Nat.sub_self, Nat.zero_add, Nat.le_refl, Nat.zero_le, List.length_cons, List.length_nil, true_and, and_true, true_or, or_true, eq_self, forall_const, true_implies, not_true_eq_false, not_false_eq_true, false_implies, implies_true, false_and, and_false, false_or, or_false, e, if01]
  exact hQ
theorem t_mHas {K : Cx} {d : Nat} {σ : Sg} {m : Mm} {l : Ml} {g v : Int32} {Q : Rt} (hQ : Q (if gd g v then 1 else 0) σ m l) : CT K (d + 1) YX6_has [.int g, .int v] σ m l Q := by
  refine kX6_has ?_
  simp only [xX6_has_0, xX6_has_1, xX6_has_2, xX6_has_3, xX6_has_4, xX6_has_5, xX6_has_6, xX6_has_9, xX6_has_10, xX6_has_13, xX6_has_14, Bool.false_eq_true, if_true, if_false, kl_i, kl_a, kl_s, kl_u, kl_l, okS_nil, okS_cons, cat_i, cat_a, cat_s, cat_l, Nat.reduceAdd, Nat.reduceLeDiff, Nat.reduceSub, Nat.sub_zero, Nat.sub_self, Nat.zero_add, Nat.le_refl, Nat.zero_le, List.length_cons, List.length_nil, true_and, and_true, true_or, or_true, eq_self, forall_const, true_implies, not_true_eq_false, not_false_eq_true, false_implies, implies_true, false_and, and_false, false_or, or_false, gd_f]
  cases h : gd g v <;> simp only [h, Bool.false_eq_true, if_true, if_false, kl_i, kl_a, kl_s, kl_u, kl_l, okS_nil, okS_cons, cat_i, cat_a, cat_s, cat_l, Nat.reduceAdd, Nat.reduceLeDiff, Nat.reduceSub, Nat.sub_zero, Nat.sub_self, Nat.zero_add, Nat.le_refl, Nat.zero_le, List.length_cons, List.length_nil, true_and, and_true, true_or, or_true, eq_self, forall_const, true_implies, not_true_eq_false, not_false_eq_true, false_implies, implies_true, false_and, and_false, false_or, or_false] at hQ ⊢ <;> exact hQ
theorem nIk (c v : Nat) : nI c + nI v = nI (c + v) := nI_add c v
theorem k5 (v : Nat) : (5 : Int32) + nI v = nI (5 + v) := nI_add 5 v
theorem k12 (v : Nat) : (12 : Int32) + nI v = nI (12 + v) := nI_add 12 v
theorem k19 (v : Nat) : (19 : Int32) + nI v = nI (19 + v) := nI_add 19 v
theorem k26 (v : Nat) : (26 : Int32) + nI v = nI (26 + v) := nI_add 26 v
theorem k33 (v : Nat) : (33 : Int32) + nI v = nI (33 + v) := nI_add 33 v
theorem cl0 : Int32.toNatClampNeg 0 = 0 := by decide
theorem cl1 : Int32.toNatClampNeg 1 = 1 := by decide
theorem cl2 : Int32.toNatClampNeg 2 = 2 := by decide
theorem cl3 : Int32.toNatClampNeg 3 = 3 := by decide
theorem cl4 : Int32.toNatClampNeg 4 = 4 := by decide
theorem vi0 : vp_in 0 40 = True := eq_true (inN (v := 0) (n := 40) (by omega) (by omega))
theorem vi1 : vp_in 1 40 = True := eq_true (inN (v := 1) (n := 40) (by omega) (by omega))
theorem vi2 : vp_in 2 40 = True := eq_true (inN (v := 2) (n := 40) (by omega) (by omega))
theorem vi3 : vp_in 3 40 = True := eq_true (inN (v := 3) (n := 40) (by omega) (by omega))
theorem vi4 : vp_in 4 40 = True := eq_true (inN (v := 4) (n := 40) (by omega) (by omega))
def isA (σ : Sg) (a : Nat) : Prop := isO σ a 100 ∧ ln σ a = 40
def mnL (x y : Int32) : Int32 := if x < y then x else y
theorem mnL_f (x y : Int32) : (if x < y then x else y) = mnL x y := rfl
def wnM (q : Nat → Int32) (v : Nat) : Int32 := if q (5 + v) = 2 then q 0 / 2 else if q (5 + v) = 4 then 2 * q 0 else if q (5 + v) = 3 then 0 else q 0
theorem t_mWants {K : Cx} {d : Nat} {σ : Sg} {m : Mm} {l : Ml} {a v : Nat} {Q : Rt} (ha : isA σ a) (hv : v < 7) (hQ : Q (wnM (m a) v) σ m l) : CT K (d + 1) YX6_wants [.ref a, .int (nI v)] σ m l Q := by
  obtain ⟨h1, h2⟩ := ha
  refine kX6_wants ?_
  have c5 := clN (v := 5 + v) (by omega)
  have n5 := inN (v := 5 + v) (n := 40) (by omega) (by omega)
  simp only [xX6_wants_0, xX6_wants_1, xX6_wants_2, xX6_wants_3, xX6_wants_4, xX6_wants_5, xX6_wants_6, xX6_wants_7, xX6_wants_8, xX6_wants_11, xX6_wants_12, xX6_wants_13, xX6_wants_14, xX6_wants_15, xX6_wants_16, xX6_wants_19, xX6_wants_20, xX6_wants_21, xX6_wants_24, xX6_wants_25, xX6_wants_26, xX6_wants_27, xX6_wants_28, xX6_wants_29, xX6_wants_32, xX6_wants_33, xX6_wants_34, xX6_wants_37, xX6_wants_38, xX6_wants_41, xX6_wants_42, xX6_wants_43, xX6_wants_44, Bool.false_eq_true, if_true, if_false, kl_i, kl_a, kl_s, kl_u, kl_l, okS_nil, okS_cons, cat_i, cat_a, cat_s, cat_l, Nat.reduceAdd, Nat.reduceLeDiff, Nat.reduceSub, Nat.sub_zero, Nat.sub_self, Nat.zero_add, Nat.le_refl, Nat.zero_le, List.length_cons, List.length_nil, true_and, and_true, true_or, or_true, eq_self, forall_const, true_implies, not_true_eq_false, not_false_eq_true, false_implies, implies_true, false_and, and_false, false_or, or_false, h1, h2, k5, k12, k19, k26, k33, cl0, cl1, cl2, cl3, cl4, vi0, vi1, vi2, vi3, vi4, c5, n5, i20]
  unfold wnM at hQ
  by_cases g2 : m a (5 + v) = 2
  · simp only [g2, Bool.false_eq_true, if_true, if_false, kl_i, kl_a, kl_s, kl_u, kl_l, okS_nil, okS_cons, cat_i, cat_a, cat_s, cat_l, Nat.reduceAdd, Nat.reduceLeDiff, Nat.reduceSub, Nat.sub_zero, Nat.sub_self, Nat.zero_add, Nat.le_refl, Nat.zero_le, List.length_cons, List.length_nil, true_and, and_true, true_or, or_true, eq_self, forall_const, true_implies, not_true_eq_false, not_false_eq_true, false_implies, implies_true, false_and, and_false, false_or, or_false] at hQ ⊢
    exact hQ
  · by_cases g4 : m a (5 + v) = 4
    · simp only [g4, Bool.false_eq_true, if_true, if_false, kl_i, kl_a, kl_s, kl_u, kl_l, okS_nil, okS_cons, cat_i, cat_a, cat_s, cat_l, Nat.reduceAdd, Nat.reduceLeDiff, Nat.reduceSub, Nat.sub_zero, Nat.sub_self, Nat.zero_add, Nat.le_refl, Nat.zero_le, List.length_cons, List.length_nil, true_and, and_true, true_or, or_true, eq_self, forall_const, true_implies, not_true_eq_false, not_false_eq_true, false_implies, implies_true, false_and, and_false, false_or, or_false, i42] at hQ ⊢
      exact hQ
    · by_cases g3 : m a (5 + v) = 3
      · simp only [g3, Bool.false_eq_true, if_true, if_false, kl_i, kl_a, kl_s, kl_u, kl_l, okS_nil, okS_cons, cat_i, cat_a, cat_s, cat_l, Nat.reduceAdd, Nat.reduceLeDiff, Nat.reduceSub, Nat.sub_zero, Nat.sub_self, Nat.zero_add, Nat.le_refl, Nat.zero_le, List.length_cons, List.length_nil, true_and, and_true, true_or, or_true, eq_self, forall_const, true_implies, not_true_eq_false, not_false_eq_true, false_implies, implies_true, false_and, and_false, false_or, or_false, i32, i34] at hQ ⊢
        exact hQ
      · simp only [g2, g3, g4, Bool.false_eq_true, if_true, if_false, kl_i, kl_a, kl_s, kl_u, kl_l, okS_nil, okS_cons, cat_i, cat_a, cat_s, cat_l, Nat.reduceAdd, Nat.reduceLeDiff, Nat.reduceSub, Nat.sub_zero, Nat.sub_self, Nat.zero_add, Nat.le_refl, Nat.zero_le, List.length_cons, List.length_nil, true_and, and_true, true_or, or_true, eq_self, forall_const, true_implies, not_true_eq_false, not_false_eq_true, false_implies, implies_true, false_and, and_false, false_or, or_false] at hQ ⊢
        exact hQ
def dwM (q : Nat → Int32) (v nx : Nat) : Nat → Int32 :=
  if gd (q 4) (nI v) = true ∨ gd (q 4) (nI nx) = true ∨ q (5 + nx) = 5 then q else
  upd (upd q (26 + nx) (q (26 + nx) - mnL (wnM q v) (q (26 + nx)))) (26 + v) (mnL (upd q (26 + nx) (q (26 + nx) - mnL (wnM q v) (q (26 + nx))) (26 + v) + mnL (wnM q v) (q (26 + nx))) (q 1))
def nxM (N v : Nat) : Nat := if v + 1 = N then 0 else v + 1
theorem l_mDraws {K : Cx} {d : Nat} {σ : Sg} {m : Mm} {l : Ml} {a v nx : Nat} {q : Nat → Int32} {Q : Rt} {e2 e3 e4 e5 : Value} (ha : isA σ a) (hv : v < 7) (hx : nx < 7) (hQ : Q 0 σ (setR m a (dwM q v nx)) l) : WX (tX6_draws K (d + 1)) Q (16, [.ref a, .int (nI v), e2, e3, e4, e5], [.int (nI nx)], (0, 0), σ, setR m a q, l) := by
  have ha0 := ha
  obtain ⟨h1, h2⟩ := ha
  have c5 := clN (v := 5 + nx) (by omega)
  have n5 := inN (v := 5 + nx) (n := 40) (by omega) (by omega)
  have c26 := clN (v := 26 + nx) (by omega)
  have n26 := inN (v := 26 + nx) (n := 40) (by omega) (by omega)
  have d26 := clN (v := 26 + v) (by omega)
  have m26 := inN (v := 26 + v) (n := 40) (by omega) (by omega)
  simp only [xX6_draws_0, xX6_draws_1, xX6_draws_2, xX6_draws_3, xX6_draws_4, xX6_draws_5, xX6_draws_6, xX6_draws_9, xX6_draws_10, xX6_draws_13, xX6_draws_14, xX6_draws_15, xX6_draws_16, xX6_draws_17, xX6_draws_18, xX6_draws_19, xX6_draws_20, xX6_draws_21, xX6_draws_24, xX6_draws_27, xX6_draws_28, xX6_draws_29, xX6_draws_30, xX6_draws_31, xX6_draws_34, xX6_draws_37, xX6_draws_38, xX6_draws_39, xX6_draws_40, xX6_draws_41, xX6_draws_42, xX6_draws_43, xX6_draws_46, xX6_draws_47, xX6_draws_48, xX6_draws_49, xX6_draws_52, xX6_draws_53, xX6_draws_54, xX6_draws_55, xX6_draws_57, xX6_draws_58, xX6_draws_59, xX6_draws_60, xX6_draws_63, xX6_draws_64, xX6_draws_67, xX6_draws_68, xX6_draws_70, xX6_draws_71, xX6_draws_72, xX6_draws_73, xX6_draws_75, xX6_draws_76, xX6_draws_78, xX6_draws_79, xX6_draws_80, xX6_draws_81, xX6_draws_82, xX6_draws_84, xX6_draws_85, xX6_draws_86, xX6_draws_87, xX6_draws_89, xX6_draws_90, xX6_draws_91, xX6_draws_92, xX6_draws_94, xX6_draws_95, xX6_draws_97, xX6_draws_98, xX6_draws_100, xX6_draws_101, xX6_draws_102, xX6_draws_104, xX6_draws_105, xX6_draws_106, xX6_draws_107, xX6_draws_110, xX6_draws_112, xX6_draws_115, xX6_draws_116, xX6_draws_117, xX6_draws_118, xX6_draws_119, Bool.false_eq_true, if_true, if_false, kl_i, kl_a, kl_s, kl_u, kl_l, okS_nil, okS_cons, cat_i, cat_a, cat_s, cat_l, Nat.reduceAdd, Nat.reduceLeDiff, Nat.reduceSub, Nat.sub_zero, Nat.sub_self, Nat.zero_add, Nat.le_refl, Nat.zero_le, List.length_cons, List.length_nil, true_and, and_true, true_or, or_true, eq_self, forall_const, true_implies, not_true_eq_false, not_false_eq_true, false_implies, implies_true, false_and, and_false, false_or, or_false, h1, h2, k5, k12, k19, k26, k33, cl0, cl1, cl2, cl3, cl4, vi0, vi1, vi2, vi3, vi4, setR_s]
  refine t_mHas ?_
  unfold dwM at hQ
  cases g1 : gd (q 4) (nI v)
  · simp only [xX6_draws_0, xX6_draws_1, xX6_draws_2, xX6_draws_3, xX6_draws_4, xX6_draws_5, xX6_draws_6, xX6_draws_9, xX6_draws_10, xX6_draws_13, xX6_draws_14, xX6_draws_15, xX6_draws_16, xX6_draws_17, xX6_draws_18, xX6_draws_19, xX6_draws_20, xX6_draws_21, xX6_draws_24, xX6_draws_27, xX6_draws_28, xX6_draws_29, xX6_draws_30, xX6_draws_31, xX6_draws_34, xX6_draws_37, xX6_draws_38, xX6_draws_39, xX6_draws_40, xX6_draws_41, xX6_draws_42, xX6_draws_43, xX6_draws_46, xX6_draws_47, xX6_draws_48, xX6_draws_49, xX6_draws_52, xX6_draws_53, xX6_draws_54, xX6_draws_55, xX6_draws_57, xX6_draws_58, xX6_draws_59, xX6_draws_60, xX6_draws_63, xX6_draws_64, xX6_draws_67, xX6_draws_68, xX6_draws_70, xX6_draws_71, xX6_draws_72, xX6_draws_73, xX6_draws_75, xX6_draws_76, xX6_draws_78, xX6_draws_79, xX6_draws_80, xX6_draws_81, xX6_draws_82, xX6_draws_84, xX6_draws_85, xX6_draws_86, xX6_draws_87, xX6_draws_89, xX6_draws_90, xX6_draws_91, xX6_draws_92, xX6_draws_94, xX6_draws_95, xX6_draws_97, xX6_draws_98, xX6_draws_100, xX6_draws_101, xX6_draws_102, xX6_draws_104, xX6_draws_105, xX6_draws_106, xX6_draws_107, xX6_draws_110, xX6_draws_112, xX6_draws_115, xX6_draws_116, xX6_draws_117, xX6_draws_118, xX6_draws_119, Bool.false_eq_true, if_true, if_false, kl_i, kl_a, kl_s, kl_u, kl_l, okS_nil, okS_cons, cat_i, cat_a, cat_s, cat_l, Nat.reduceAdd, Nat.reduceLeDiff, Nat.reduceSub, Nat.sub_zero, Nat.sub_self, Nat.zero_add, Nat.le_refl, Nat.zero_le, List.length_cons, List.length_nil, true_and, and_true, true_or, or_true, eq_self, forall_const, true_implies, not_true_eq_false, not_false_eq_true, false_implies, implies_true, false_and, and_false, false_or, or_false, h1, h2, k5, k12, k19, k26, k33, cl0, cl1, cl2, cl3, cl4, vi0, vi1, vi2, vi3, vi4, setR_s]
    refine t_mHas ?_
    cases g2 : gd (q 4) (nI nx)
    · by_cases g3 : q (5 + nx) = 5
      · simp only [g3, Bool.false_eq_true, if_true, if_false, kl_i, kl_a, kl_s, kl_u, kl_l, okS_nil, okS_cons, cat_i, cat_a, cat_s, cat_l, Nat.reduceAdd, Nat.reduceLeDiff, Nat.reduceSub, Nat.sub_zero, Nat.sub_self, Nat.zero_add, Nat.le_refl, Nat.zero_le, List.length_cons, List.length_nil, true_and, and_true, true_or, or_true, eq_self, forall_const, true_implies, not_true_eq_false, not_false_eq_true, false_implies, implies_true, false_and, and_false, false_or, or_false] at hQ
        simp only [xX6_draws_0, xX6_draws_1, xX6_draws_2, xX6_draws_3, xX6_draws_4, xX6_draws_5, xX6_draws_6, xX6_draws_9, xX6_draws_10, xX6_draws_13, xX6_draws_14, xX6_draws_15, xX6_draws_16, xX6_draws_17, xX6_draws_18, xX6_draws_19, xX6_draws_20, xX6_draws_21, xX6_draws_24, xX6_draws_27, xX6_draws_28, xX6_draws_29, xX6_draws_30, xX6_draws_31, xX6_draws_34, xX6_draws_37, xX6_draws_38, xX6_draws_39, xX6_draws_40, xX6_draws_41, xX6_draws_42, xX6_draws_43, xX6_draws_46, xX6_draws_47, xX6_draws_48, xX6_draws_49, xX6_draws_52, xX6_draws_53, xX6_draws_54, xX6_draws_55, xX6_draws_57, xX6_draws_58, xX6_draws_59, xX6_draws_60, xX6_draws_63, xX6_draws_64, xX6_draws_67, xX6_draws_68, xX6_draws_70, xX6_draws_71, xX6_draws_72, xX6_draws_73, xX6_draws_75, xX6_draws_76, xX6_draws_78, xX6_draws_79, xX6_draws_80, xX6_draws_81, xX6_draws_82, xX6_draws_84, xX6_draws_85, xX6_draws_86, xX6_draws_87, xX6_draws_89, xX6_draws_90, xX6_draws_91, xX6_draws_92, xX6_draws_94, xX6_draws_95, xX6_draws_97, xX6_draws_98, xX6_draws_100, xX6_draws_101, xX6_draws_102, xX6_draws_104, xX6_draws_105, xX6_draws_106, xX6_draws_107, xX6_draws_110, xX6_draws_112, xX6_draws_115, xX6_draws_116, xX6_draws_117, xX6_draws_118, xX6_draws_119, Bool.false_eq_true, if_true, if_false, kl_i, kl_a, kl_s, kl_u, kl_l, okS_nil, okS_cons, cat_i, cat_a, cat_s, cat_l, Nat.reduceAdd, Nat.reduceLeDiff, Nat.reduceSub, Nat.sub_zero, Nat.sub_self, Nat.zero_add, Nat.le_refl, Nat.zero_le, List.length_cons, List.length_nil, true_and, and_true, true_or, or_true, eq_self, forall_const, true_implies, not_true_eq_false, not_false_eq_true, false_implies, implies_true, false_and, and_false, false_or, or_false, h1, h2, k5, k12, k19, k26, k33, cl0, cl1, cl2, cl3, cl4, vi0, vi1, vi2, vi3, vi4, setR_s, c5, n5, g3]
        exact hQ
      · simp only [g1, g2, g3, Bool.false_eq_true, if_true, if_false, kl_i, kl_a, kl_s, kl_u, kl_l, okS_nil, okS_cons, cat_i, cat_a, cat_s, cat_l, Nat.reduceAdd, Nat.reduceLeDiff, Nat.reduceSub, Nat.sub_zero, Nat.sub_self, Nat.zero_add, Nat.le_refl, Nat.zero_le, List.length_cons, List.length_nil, true_and, and_true, true_or, or_true, eq_self, forall_const, true_implies, not_true_eq_false, not_false_eq_true, false_implies, implies_true, false_and, and_false, false_or, or_false] at hQ
        simp only [xX6_draws_0, xX6_draws_1, xX6_draws_2, xX6_draws_3, xX6_draws_4, xX6_draws_5, xX6_draws_6, xX6_draws_9, xX6_draws_10, xX6_draws_13, xX6_draws_14, xX6_draws_15, xX6_draws_16, xX6_draws_17, xX6_draws_18, xX6_draws_19, xX6_draws_20, xX6_draws_21, xX6_draws_24, xX6_draws_27, xX6_draws_28, xX6_draws_29, xX6_draws_30, xX6_draws_31, xX6_draws_34, xX6_draws_37, xX6_draws_38, xX6_draws_39, xX6_draws_40, xX6_draws_41, xX6_draws_42, xX6_draws_43, xX6_draws_46, xX6_draws_47, xX6_draws_48, xX6_draws_49, xX6_draws_52, xX6_draws_53, xX6_draws_54, xX6_draws_55, xX6_draws_57, xX6_draws_58, xX6_draws_59, xX6_draws_60, xX6_draws_63, xX6_draws_64, xX6_draws_67, xX6_draws_68, xX6_draws_70, xX6_draws_71, xX6_draws_72, xX6_draws_73, xX6_draws_75, xX6_draws_76, xX6_draws_78, xX6_draws_79, xX6_draws_80, xX6_draws_81, xX6_draws_82, xX6_draws_84, xX6_draws_85, xX6_draws_86, xX6_draws_87, xX6_draws_89, xX6_draws_90, xX6_draws_91, xX6_draws_92, xX6_draws_94, xX6_draws_95, xX6_draws_97, xX6_draws_98, xX6_draws_100, xX6_draws_101, xX6_draws_102, xX6_draws_104, xX6_draws_105, xX6_draws_106, xX6_draws_107, xX6_draws_110, xX6_draws_112, xX6_draws_115, xX6_draws_116, xX6_draws_117, xX6_draws_118, xX6_draws_119, Bool.false_eq_true, if_true, if_false, kl_i, kl_a, kl_s, kl_u, kl_l, okS_nil, okS_cons, cat_i, cat_a, cat_s, cat_l, Nat.reduceAdd, Nat.reduceLeDiff, Nat.reduceSub, Nat.sub_zero, Nat.sub_self, Nat.zero_add, Nat.le_refl, Nat.zero_le, List.length_cons, List.length_nil, true_and, and_true, true_or, or_true, eq_self, forall_const, true_implies, not_true_eq_false, not_false_eq_true, false_implies, implies_true, false_and, and_false, false_or, or_false, h1, h2, k5, k12, k19, k26, k33, cl0, cl1, cl2, cl3, cl4, vi0, vi1, vi2, vi3, vi4, setR_s, c5, n5, g3]
        refine t_mWants ha0 hv ?_
        have e1 : ∀ x, upd q (26 + nx) x 1 = q 1 := fun x => upd_n _ _ (by omega)
        simp only [xX6_draws_0, xX6_draws_1, xX6_draws_2, xX6_draws_3, xX6_draws_4, xX6_draws_5, xX6_draws_6, xX6_draws_9, xX6_draws_10, xX6_draws_13, xX6_draws_14, xX6_draws_15, xX6_draws_16, xX6_draws_17, xX6_draws_18, xX6_draws_19, xX6_draws_20, xX6_draws_21, xX6_draws_24, xX6_draws_27, xX6_draws_28, xX6_draws_29, xX6_draws_30, xX6_draws_31, xX6_draws_34, xX6_draws_37, xX6_draws_38, xX6_draws_39, xX6_draws_40, xX6_draws_41, xX6_draws_42, xX6_draws_43, xX6_draws_46, xX6_draws_47, xX6_draws_48, xX6_draws_49, xX6_draws_52, xX6_draws_53, xX6_draws_54, xX6_draws_55, xX6_draws_57, xX6_draws_58, xX6_draws_59, xX6_draws_60, xX6_draws_63, xX6_draws_64, xX6_draws_67, xX6_draws_68, xX6_draws_70, xX6_draws_71, xX6_draws_72, xX6_draws_73, xX6_draws_75, xX6_draws_76, xX6_draws_78, xX6_draws_79, xX6_draws_80, xX6_draws_81, xX6_draws_82, xX6_draws_84, xX6_draws_85, xX6_draws_86, xX6_draws_87, xX6_draws_89, xX6_draws_90, xX6_draws_91, xX6_draws_92, xX6_draws_94, xX6_draws_95, xX6_draws_97, xX6_draws_98, xX6_draws_100, xX6_draws_101, xX6_draws_102, xX6_draws_104, xX6_draws_105, xX6_draws_106, xX6_draws_107, xX6_draws_110, xX6_draws_112, xX6_draws_115, xX6_draws_116, xX6_draws_117, xX6_draws_118, xX6_draws_119, Bool.false_eq_true, if_true, if_false, kl_i, kl_a, kl_s, kl_u, kl_l, okS_nil, okS_cons, cat_i, cat_a, cat_s, cat_l, Nat.reduceAdd, Nat.reduceLeDiff, Nat.reduceSub, Nat.sub_zero, Nat.sub_self, Nat.zero_add, Nat.le_refl, Nat.zero_le, List.length_cons, List.length_nil, true_and, and_true, true_or, or_true, eq_self, forall_const, true_implies, not_true_eq_false, not_false_eq_true, false_implies, implies_true, false_and, and_false, false_or, or_false, h1, h2, k5, k12, k19, k26, k33, cl0, cl1, cl2, cl3, cl4, vi0, vi1, vi2, vi3, vi4, setR_s, c26, n26, d26, m26, upM_setR, setR_setR, e1]
        by_cases g4 : wnM q v < q (26 + nx)
        · have e2 : mnL (wnM q v) (q (26 + nx)) = wnM q v := if_pos g4
          rw [e2] at hQ
          simp only [g4, Bool.false_eq_true, if_true, if_false, kl_i, kl_a, kl_s, kl_u, kl_l, okS_nil, okS_cons, cat_i, cat_a, cat_s, cat_l, Nat.reduceAdd, Nat.reduceLeDiff, Nat.reduceSub, Nat.sub_zero, Nat.sub_self, Nat.zero_add, Nat.le_refl, Nat.zero_le, List.length_cons, List.length_nil, true_and, and_true, true_or, or_true, eq_self, forall_const, true_implies, not_true_eq_false, not_false_eq_true, false_implies, implies_true, false_and, and_false, false_or, or_false]
          unfold mnL at hQ
          by_cases g5 : upd q (26 + nx) (q (26 + nx) - wnM q v) (26 + v) + wnM q v < q 1
          · simp only [g5, Bool.false_eq_true, if_true, if_false, kl_i, kl_a, kl_s, kl_u, kl_l, okS_nil, okS_cons, cat_i, cat_a, cat_s, cat_l, Nat.reduceAdd, Nat.reduceLeDiff, Nat.reduceSub, Nat.sub_zero, Nat.sub_self, Nat.zero_add, Nat.le_refl, Nat.zero_le, List.length_cons, List.length_nil, true_and, and_true, true_or, or_true, eq_self, forall_const, true_implies, not_true_eq_false, not_false_eq_true, false_implies, implies_true, false_and, and_false, false_or, or_false] at hQ ⊢
            exact hQ
          · simp only [g5, Bool.false_eq_true, if_true, if_false, kl_i, kl_a, kl_s, kl_u, kl_l, okS_nil, okS_cons, cat_i, cat_a, cat_s, cat_l, Nat.reduceAdd, Nat.reduceLeDiff, Nat.reduceSub, Nat.sub_zero, Nat.sub_self, Nat.zero_add, Nat.le_refl, Nat.zero_le, List.length_cons, List.length_nil, true_and, and_true, true_or, or_true, eq_self, forall_const, true_implies, not_true_eq_false, not_false_eq_true, false_implies, implies_true, false_and, and_false, false_or, or_false] at hQ ⊢
            exact hQ
        · have e2 : mnL (wnM q v) (q (26 + nx)) = q (26 + nx) := if_neg g4
          rw [e2] at hQ
          simp only [g4, Bool.false_eq_true, if_true, if_false, kl_i, kl_a, kl_s, kl_u, kl_l, okS_nil, okS_cons, cat_i, cat_a, cat_s, cat_l, Nat.reduceAdd, Nat.reduceLeDiff, Nat.reduceSub, Nat.sub_zero, Nat.sub_self, Nat.zero_add, Nat.le_refl, Nat.zero_le, List.length_cons, List.length_nil, true_and, and_true, true_or, or_true, eq_self, forall_const, true_implies, not_true_eq_false, not_false_eq_true, false_implies, implies_true, false_and, and_false, false_or, or_false]
          unfold mnL at hQ
          by_cases g5 : upd q (26 + nx) (q (26 + nx) - q (26 + nx)) (26 + v) + q (26 + nx) < q 1
          · simp only [g5, Bool.false_eq_true, if_true, if_false, kl_i, kl_a, kl_s, kl_u, kl_l, okS_nil, okS_cons, cat_i, cat_a, cat_s, cat_l, Nat.reduceAdd, Nat.reduceLeDiff, Nat.reduceSub, Nat.sub_zero, Nat.sub_self, Nat.zero_add, Nat.le_refl, Nat.zero_le, List.length_cons, List.length_nil, true_and, and_true, true_or, or_true, eq_self, forall_const, true_implies, not_true_eq_false, not_false_eq_true, false_implies, implies_true, false_and, and_false, false_or, or_false] at hQ ⊢
            exact hQ
          · simp only [g5, Bool.false_eq_true, if_true, if_false, kl_i, kl_a, kl_s, kl_u, kl_l, okS_nil, okS_cons, cat_i, cat_a, cat_s, cat_l, Nat.reduceAdd, Nat.reduceLeDiff, Nat.reduceSub, Nat.sub_zero, Nat.sub_self, Nat.zero_add, Nat.le_refl, Nat.zero_le, List.length_cons, List.length_nil, true_and, and_true, true_or, or_true, eq_self, forall_const, true_implies, not_true_eq_false, not_false_eq_true, false_implies, implies_true, false_and, and_false, false_or, or_false] at hQ ⊢
            exact hQ
    · simp only [g1, g2, Bool.false_eq_true, if_true, if_false, kl_i, kl_a, kl_s, kl_u, kl_l, okS_nil, okS_cons, cat_i, cat_a, cat_s, cat_l, Nat.reduceAdd, Nat.reduceLeDiff, Nat.reduceSub, Nat.sub_zero, Nat.sub_self, Nat.zero_add, Nat.le_refl, Nat.zero_le, List.length_cons, List.length_nil, true_and, and_true, true_or, or_true, eq_self, forall_const, true_implies, not_true_eq_false, not_false_eq_true, false_implies, implies_true, false_and, and_false, false_or, or_false] at hQ
      simp only [xX6_draws_0, xX6_draws_1, xX6_draws_2, xX6_draws_3, xX6_draws_4, xX6_draws_5, xX6_draws_6, xX6_draws_9, xX6_draws_10, xX6_draws_13, xX6_draws_14, xX6_draws_15, xX6_draws_16, xX6_draws_17, xX6_draws_18, xX6_draws_19, xX6_draws_20, xX6_draws_21, xX6_draws_24, xX6_draws_27, xX6_draws_28, xX6_draws_29, xX6_draws_30, xX6_draws_31, xX6_draws_34, xX6_draws_37, xX6_draws_38, xX6_draws_39, xX6_draws_40, xX6_draws_41, xX6_draws_42, xX6_draws_43, xX6_draws_46, xX6_draws_47, xX6_draws_48, xX6_draws_49, xX6_draws_52, xX6_draws_53, xX6_draws_54, xX6_draws_55, xX6_draws_57, xX6_draws_58, xX6_draws_59, xX6_draws_60, xX6_draws_63, xX6_draws_64, xX6_draws_67, xX6_draws_68, xX6_draws_70, xX6_draws_71, xX6_draws_72, xX6_draws_73, xX6_draws_75, xX6_draws_76, xX6_draws_78, xX6_draws_79, xX6_draws_80, xX6_draws_81, xX6_draws_82, xX6_draws_84, xX6_draws_85, xX6_draws_86, xX6_draws_87, xX6_draws_89, xX6_draws_90, xX6_draws_91, xX6_draws_92, xX6_draws_94, xX6_draws_95, xX6_draws_97, xX6_draws_98, xX6_draws_100, xX6_draws_101, xX6_draws_102, xX6_draws_104, xX6_draws_105, xX6_draws_106, xX6_draws_107, xX6_draws_110, xX6_draws_112, xX6_draws_115, xX6_draws_116, xX6_draws_117, xX6_draws_118, xX6_draws_119, Bool.false_eq_true, if_true, if_false, kl_i, kl_a, kl_s, kl_u, kl_l, okS_nil, okS_cons, cat_i, cat_a, cat_s, cat_l, Nat.reduceAdd, Nat.reduceLeDiff, Nat.reduceSub, Nat.sub_zero, Nat.sub_self, Nat.zero_add, Nat.le_refl, Nat.zero_le, List.length_cons, List.length_nil, true_and, and_true, true_or, or_true, eq_self, forall_const, true_implies, not_true_eq_false, not_false_eq_true, false_implies, implies_true, false_and, and_false, false_or, or_false, h1, h2, k5, k12, k19, k26, k33, cl0, cl1, cl2, cl3, cl4, vi0, vi1, vi2, vi3, vi4, setR_s, i10]
      exact hQ
  · simp only [g1, Bool.false_eq_true, if_true, if_false, kl_i, kl_a, kl_s, kl_u, kl_l, okS_nil, okS_cons, cat_i, cat_a, cat_s, cat_l, Nat.reduceAdd, Nat.reduceLeDiff, Nat.reduceSub, Nat.sub_zero, Nat.sub_self, Nat.zero_add, Nat.le_refl, Nat.zero_le, List.length_cons, List.length_nil, true_and, and_true, true_or, or_true, eq_self, forall_const, true_implies, not_true_eq_false, not_false_eq_true, false_implies, implies_true, false_and, and_false, false_or, or_false] at hQ
    simp only [xX6_draws_0, xX6_draws_1, xX6_draws_2, xX6_draws_3, xX6_draws_4, xX6_draws_5, xX6_draws_6, xX6_draws_9, xX6_draws_10, xX6_draws_13, xX6_draws_14, xX6_draws_15, xX6_draws_16, xX6_draws_17, xX6_draws_18, xX6_draws_19, xX6_draws_20, xX6_draws_21, xX6_draws_24, xX6_draws_27, xX6_draws_28, xX6_draws_29, xX6_draws_30, xX6_draws_31, xX6_draws_34, xX6_draws_37, xX6_draws_38, xX6_draws_39, xX6_draws_40, xX6_draws_41, xX6_draws_42, xX6_draws_43, xX6_draws_46, xX6_draws_47, xX6_draws_48, xX6_draws_49, xX6_draws_52, xX6_draws_53, xX6_draws_54, xX6_draws_55, xX6_draws_57, xX6_draws_58, xX6_draws_59, xX6_draws_60, xX6_draws_63, xX6_draws_64, xX6_draws_67, xX6_draws_68, xX6_draws_70, xX6_draws_71, xX6_draws_72, xX6_draws_73, xX6_draws_75, xX6_draws_76, xX6_draws_78, xX6_draws_79, xX6_draws_80, xX6_draws_81, xX6_draws_82, xX6_draws_84, xX6_draws_85, xX6_draws_86, xX6_draws_87, xX6_draws_89, xX6_draws_90, xX6_draws_91, xX6_draws_92, xX6_draws_94, xX6_draws_95, xX6_draws_97, xX6_draws_98, xX6_draws_100, xX6_draws_101, xX6_draws_102, xX6_draws_104, xX6_draws_105, xX6_draws_106, xX6_draws_107, xX6_draws_110, xX6_draws_112, xX6_draws_115, xX6_draws_116, xX6_draws_117, xX6_draws_118, xX6_draws_119, Bool.false_eq_true, if_true, if_false, kl_i, kl_a, kl_s, kl_u, kl_l, okS_nil, okS_cons, cat_i, cat_a, cat_s, cat_l, Nat.reduceAdd, Nat.reduceLeDiff, Nat.reduceSub, Nat.sub_zero, Nat.sub_self, Nat.zero_add, Nat.le_refl, Nat.zero_le, List.length_cons, List.length_nil, true_and, and_true, true_or, or_true, eq_self, forall_const, true_implies, not_true_eq_false, not_false_eq_true, false_implies, implies_true, false_and, and_false, false_or, or_false, h1, h2, k5, k12, k19, k26, k33, cl0, cl1, cl2, cl3, cl4, vi0, vi1, vi2, vi3, vi4, setR_s, i10]
    exact hQ
theorem t_mDraws {K : Cx} {d : Nat} {σ : Sg} {m : Mm} {l : Ml} {a v N : Nat} {q : Nat → Int32} {Q : Rt} (ha : isA σ a) (hN : q 2 = nI N) (h7 : N ≤ 7) (hv : v < N) (hQ : Q 0 σ (setR m a (dwM q v (nxM N v))) l) : CT K (d + 2) YX6_draws [.ref a, .int (nI v)] σ (setR m a q) l Q := by
  refine kX6_draws ?_
  have hn : nxM N v < 7 := by unfold nxM; split <;> omega
  have key := l_mDraws (K := K) (d := d) (e2 := .float 0) (e3 := .float 0) (e4 := .float 0) (e5 := .float 0) ha (by omega : v < 7) hn hQ
  simp only [xX6_draws_0, xX6_draws_1, xX6_draws_2, xX6_draws_3, xX6_draws_4, xX6_draws_5, xX6_draws_6, xX6_draws_9, xX6_draws_10, xX6_draws_13, xX6_draws_14, xX6_draws_15, xX6_draws_17, xX6_draws_18, xX6_draws_19, xX6_draws_20, xX6_draws_21, xX6_draws_24, xX6_draws_27, xX6_draws_28, xX6_draws_29, xX6_draws_30, xX6_draws_31, xX6_draws_34, xX6_draws_37, xX6_draws_38, xX6_draws_39, xX6_draws_40, xX6_draws_41, xX6_draws_42, xX6_draws_43, xX6_draws_46, xX6_draws_47, xX6_draws_48, xX6_draws_49, xX6_draws_52, xX6_draws_53, xX6_draws_54, xX6_draws_55, xX6_draws_57, xX6_draws_58, xX6_draws_59, xX6_draws_60, xX6_draws_63, xX6_draws_64, xX6_draws_67, xX6_draws_68, xX6_draws_70, xX6_draws_71, xX6_draws_72, xX6_draws_73, xX6_draws_75, xX6_draws_76, xX6_draws_78, xX6_draws_79, xX6_draws_80, xX6_draws_81, xX6_draws_82, xX6_draws_84, xX6_draws_85, xX6_draws_86, xX6_draws_87, xX6_draws_89, xX6_draws_90, xX6_draws_91, xX6_draws_92, xX6_draws_94, xX6_draws_95, xX6_draws_97, xX6_draws_98, xX6_draws_100, xX6_draws_101, xX6_draws_102, xX6_draws_104, xX6_draws_105, xX6_draws_106, xX6_draws_107, xX6_draws_110, xX6_draws_112, xX6_draws_115, xX6_draws_116, xX6_draws_117, xX6_draws_118, xX6_draws_119, Bool.false_eq_true, if_true, if_false, kl_i, kl_a, kl_s, kl_u, kl_l, okS_nil, okS_cons, cat_i, cat_a, cat_s, cat_l, Nat.reduceAdd, Nat.reduceLeDiff, Nat.reduceSub, Nat.sub_zero, Nat.sub_self, Nat.zero_add, Nat.le_refl, Nat.zero_le, List.length_cons, List.length_nil, true_and, and_true, true_or, or_true, eq_self, forall_const, true_implies, not_true_eq_false, not_false_eq_true, false_implies, implies_true, false_and, and_false, false_or, or_false, ha.1, ha.2, k5, k12, k19, k26, k33, cl0, cl1, cl2, cl3, cl4, vi0, vi1, vi2, vi3, vi4, setR_s, hN, nI1]
  have c : (nI (v + 1) = nI N) = (v + 1 = N) := eqN (a := v + 1) (b := N) (by omega) (by omega)
  rw [c]
  refine ⟨fun h => ?_, fun h => ?_⟩
  · rw [nxM, if_pos h] at key
    exact key
  · rw [nxM, if_neg h] at key
    exact key
