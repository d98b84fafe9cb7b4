/-! CONSTRUCTORS: the acts, the model -/
theorem l_X0 {K : Cx} {d : Nat} {Q : Rt} {σ0 : Sg} (hQ : ∀ σ', σ'.1 = 197 → wfA σ' → smS σ0 σ' 0 51 → Q 0 σ' zM zL) : ∀ (k v : Nat) (σ : Sg) (b1 b2 : Nat), v + k = 24 → σ.1 = 53 + 6 * v → isO σ 51 0 → rf σ 51 0 = .ref 52 → isO σ 52 111 → ln σ 52 = 24 →
    (∀ j, j < v → rf σ 52 j = .ref (53 + 6 * j) ∧ isP σ (53 + 6 * j)) → 6 * k ≤ b1 → 46 * k ≤ b2 → smS σ0 σ 0 51 → WX (tX0_init K (d + 1)) Q (15, [.ref 51, .int (nI v)], [], (b1, b2), σ, zM, zL) := by
  intro k
  induction k with
  | zero =>
    intro v σ b1 b2 hv e1 a1 a2 a3 a4 a5 hb1 hb2 hs
    obtain rfl : v = 24 := by omega
    have c1 : (nI 24 < 24) = False := eq_false (by decide)
    rw [xX0_init_15]
    simp only [xX0_init_16, xX0_init_18, xX0_init_40, xX0_init_41, xX0_init_42, xX0_init_45, xX0_init_46, xX0_init_47, xX0_init_50, Bool.false_eq_true, if_true, if_false, kl_i, kl_a, kl_s, kl_u, kl_l, okS_nil, okS_cons, cat_i, cat_a, cat_s, cat_l, Nat.reduceAdd, Nat.reduceLeDiff, Nat.reduceSub, Nat.sub_zero, Nat.sub_self, Nat.zero_add, Nat.le_refl, Nat.zero_le, List.length_cons, List.length_nil, true_and, and_true, true_or, or_true, eq_self, forall_const, true_implies, not_true_eq_false, not_false_eq_true, false_implies, implies_true, false_and, and_false, false_or, or_false, c1, a1, upM_z]
    exact hQ σ e1 ⟨a1, a2, a3, a4, a5⟩ hs
  | succ k ih =>
    intro v σ b1 b2 hv e1 a1 a2 a3 a4 a5 hb1 hb2 hs
    have c1 : (nI v < 24) = True := (ltN (a := v) (b := 24) (by omega) (by omega)).trans (eq_true (by omega))
    have hcv := clN (v := v) (by omega)
    have hiv := inN (v := v) (n := 24) (by omega) (by omega)
    rw [xX0_init_15]
    simp only [xX0_init_16, xX0_init_18, xX0_init_21, xX0_init_22, xX0_init_25, xX0_init_26, xX0_init_29, xX0_init_30, xX0_init_33, xX0_init_34, xX0_init_37, Bool.false_eq_true, if_true, if_false, kl_i, kl_a, kl_s, kl_u, kl_l, okS_nil, okS_cons, cat_i, cat_a, cat_s, cat_l, Nat.reduceAdd, Nat.reduceLeDiff, Nat.reduceSub, Nat.sub_zero, Nat.sub_self, Nat.zero_add, Nat.le_refl, Nat.zero_le, List.length_cons, List.length_nil, true_and, and_true, true_or, or_true, eq_self, forall_const, true_implies, not_true_eq_false, not_false_eq_true, false_implies, implies_true, false_and, and_false, false_or, or_false, c1, a1, a2, e1, zeM_z, zeL_z, hcv, nI1]
    refine ⟨by omega, by omega, by omega, by omega, ?_⟩
    have sN : smS σ (upN σ 1 11) 0 (53 + 6 * v) := smN σ 1 11 (by omega)
    refine c_X1 (p := 53 + 6 * v) (by rw [N_1, e1]) (isO_N 1 11 e1) (fun s e2 P2 S2 => ?_)
    have S3 := smS_t sN S2
    have e51 := S3 51 (by omega) (by omega)
    have e52 := S3 52 (by omega) (by omega)
    have o51 : isO s 51 0 := isO_s a1 (by omega) e51.1
    have o52 : isO s 52 111 := isO_s a3 (by omega) e52.1
    have l52 : ln s 52 = 24 := (ln_s e52.1).trans a4
    refine ⟨o52, P2.1, by rw [l52]; exact hiv, ?_⟩
    have S4 : smS σ (upR s 52 v (.ref (53 + 6 * v))) 53 (53 + 6 * v) := smS_t (smS_w S3 (by omega) (by omega)) (smR _ _ _ _ (by omega))
    refine ih (v + 1) _ _ _ (by omega) (by rw [R_1, e2]; omega) o51 ((rf_Rn _ _ _ _ (by decide) _).trans ((rf_s e51.2 0).trans a2)) o52 l52 (fun j hj => ?_) (by omega) (by omega) (smS_t hs (smS_t (smS_w S3 (by omega) (by omega)) (smR _ _ _ _ (by omega))))
    rw [rf_R]
    by_cases hjv : j = v
    · subst hjv
      exact ⟨if_pos rfl, isP_s (smR _ _ _ _ (by omega)) (by rw [R_1]; omega) P2⟩
    · rw [if_neg hjv]
      exact ⟨(rf_s e52.2 j).trans (a5 j (by omega)).1, isP_s (smS_w S4 (by omega) (by omega)) (by rw [R_1]; omega) (a5 j (by omega)).2⟩
theorem c_X0 {K : Cx} {d : Nat} {σ : Sg} {Q : Rt} (h1 : σ.1 = 52) (h2 : isO σ 51 0) (hQ : ∀ σ', σ'.1 = 197 → wfA σ' → smS σ σ' 0 51 → Q 0 σ' zM zL) : CT K (d + 2) YX0_init [.ref 51] σ zM zL Q := by
  refine kX0_init ?_
  have F0 : FF σ 0 51 [] := FF_0 h1 h2
  simp only [xX0_init_0, xX0_init_1, Bool.false_eq_true, if_true, if_false, kl_i, kl_a, kl_s, kl_u, kl_l, okS_nil, okS_cons, cat_i, cat_a, cat_s, cat_l, Nat.reduceAdd, Nat.reduceLeDiff, Nat.reduceSub, Nat.sub_zero, Nat.sub_self, Nat.zero_add, Nat.le_refl, Nat.zero_le, List.length_cons, List.length_nil, true_and, and_true, true_or, or_true, eq_self, forall_const, true_implies, not_true_eq_false, not_false_eq_true, false_implies, implies_true, false_and, and_false, false_or, or_false]
  have c_0 : Int32.toNatClampNeg 24 = 24 := by decide
  have z_0 : ((24 : Int32) < 0) = False := eq_false (by decide)
  obtain ⟨F1, O1, S1⟩ := FF_s (k := 0) (t := 111) (n := 24) F0 (by simp)
  simp only [xX0_init_4, xX0_init_5, xX0_init_7, xX0_init_10, Bool.false_eq_true, if_true, if_false, kl_i, kl_a, kl_s, kl_u, kl_l, okS_nil, okS_cons, cat_i, cat_a, cat_s, cat_l, Nat.reduceAdd, Nat.reduceLeDiff, Nat.reduceSub, Nat.sub_zero, Nat.sub_self, Nat.zero_add, Nat.le_refl, Nat.zero_le, List.length_cons, List.length_nil, true_and, and_true, true_or, or_true, eq_self, forall_const, true_implies, not_true_eq_false, not_false_eq_true, false_implies, implies_true, false_and, and_false, false_or, or_false, c_0, z_0, O1, zeM_z, zeL_z]
  generalize upR (upN σ 111 24) 51 0 (.ref σ.1) = σ1 at F1 S1 ⊢
  simp only [xX0_init_13, xX0_init_14, Bool.false_eq_true, if_true, if_false, kl_i, kl_a, kl_s, kl_u, kl_l, okS_nil, okS_cons, cat_i, cat_a, cat_s, cat_l, Nat.reduceAdd, Nat.reduceLeDiff, Nat.reduceSub, Nat.sub_zero, Nat.sub_self, Nat.zero_add, Nat.le_refl, Nat.zero_le, List.length_cons, List.length_nil, true_and, and_true, true_or, or_true, eq_self, forall_const, true_implies, not_true_eq_false, not_false_eq_true, false_implies, implies_true, false_and, and_false, false_or, or_false]
  exact l_X0 hQ 24 0 σ1 _ _ (by omega) F1.1 F1.2.1 (F1.2.2 0 _ rfl).1 (F1.2.2 0 _ rfl).2.1 (F1.2.2 0 _ rfl).2.2 (fun j hj => by omega) (by omega) (by omega) S1
/-- no row is there -/
def szM (v : Nat) : Mm := fun a j => if a = 201 ∧ j < v then -1 else 0
theorem szM_0 : szM 0 = zM := by
  funext a j
  exact if_neg (by omega)
theorem szM_s (v : Nat) : upM (szM v) 201 v (-1) = szM (v + 1) := by
  funext a j
  by_cases h : a = 201
  · subst h
    rw [upM_s]
    unfold upd szM
    by_cases g : j = v
    · rw [if_pos g, if_pos (by omega)]
    · rw [if_neg g]
      by_cases g2 : j < v
      · rw [if_pos ⟨rfl, g2⟩, if_pos ⟨rfl, by omega⟩]
      · rw [if_neg (by omega), if_neg (by omega)]
  · rw [upM_n _ _ _ h]
    unfold szM
    rw [if_neg (fun g => h g.1), if_neg (fun g => h g.1)]
theorem l_X6 {K : Cx} {d : Nat} {Q : Rt} {σ : Sg} {b : Bd} (a1 : isO σ 199 6) (a2 : rf σ 199 1 = .ref 201) (a3 : isO σ 201 100) (a4 : ln σ 201 = 8) (hQ : Q 0 σ (szM 8) zL) : ∀ (k v : Nat), v + k = 8 → WX (tX6_init K d) Q (104, [.ref 199, .int (nI v)], [], b, σ, szM v, zL) := by
  intro k
  induction k with
  | zero =>
    intro v hv
    obtain rfl : v = 8 := by omega
    have c1 : (nI 8 < 8) = False := eq_false (by decide)
    rw [xX6_init_104]
    simp only [xX6_init_105, xX6_init_107, xX6_init_123, Bool.false_eq_true, if_true, if_false, kl_i, kl_a, kl_s, kl_u, kl_l, okS_nil, okS_cons, cat_i, cat_a, cat_s, cat_l, Nat.reduceAdd, Nat.reduceLeDiff, Nat.reduceSub, Nat.sub_zero, Nat.sub_self, Nat.zero_add, Nat.le_refl, Nat.zero_le, List.length_cons, List.length_nil, true_and, and_true, true_or, or_true, eq_self, forall_const, true_implies, not_true_eq_false, not_false_eq_true, false_implies, implies_true, false_and, and_false, false_or, or_false, c1]
    exact hQ
  | succ k ih =>
    intro v hv
    have c1 : (nI v < 8) = True := (ltN (a := v) (b := 8) (by omega) (by omega)).trans (eq_true (by omega))
    have hcv := clN (v := v) (by omega)
    have hiv := inN (v := v) (n := 8) (by omega) (by omega)
    rw [xX6_init_104]
    simp only [xX6_init_105, xX6_init_107, xX6_init_110, xX6_init_111, xX6_init_114, xX6_init_115, xX6_init_116, xX6_init_117, xX6_init_120, Bool.false_eq_true, if_true, if_false, kl_i, kl_a, kl_s, kl_u, kl_l, okS_nil, okS_cons, cat_i, cat_a, cat_s, cat_l, Nat.reduceAdd, Nat.reduceLeDiff, Nat.reduceSub, Nat.sub_zero, Nat.sub_self, Nat.zero_add, Nat.le_refl, Nat.zero_le, List.length_cons, List.length_nil, true_and, and_true, true_or, or_true, eq_self, forall_const, true_implies, not_true_eq_false, not_false_eq_true, false_implies, implies_true, false_and, and_false, false_or, or_false, c1, a1, a2, a3, a4, hcv, hiv, nI1, szM_s]
    exact ih (v + 1) (by omega)
theorem c_X6 {K : Cx} {d : Nat} {σ : Sg} {Q : Rt} (h1 : σ.1 = 200) (h2 : isO σ 199 6) (hQ : ∀ σ', wfM σ' → smS σ σ' 0 199 → σ'.1 = 212 → Q 0 σ' (szM 8) zL) : CT K (d + 1) YX6_init [.ref 199] σ zM zL Q := by
  refine kX6_init ?_
  have F0 : FF σ 6 199 [] := FF_0 h1 h2
  simp only [xX6_init_0, xX6_init_1, Bool.false_eq_true, if_true, if_false, kl_i, kl_a, kl_s, kl_u, kl_l, okS_nil, okS_cons, cat_i, cat_a, cat_s, cat_l, Nat.reduceAdd, Nat.reduceLeDiff, Nat.reduceSub, Nat.sub_zero, Nat.sub_self, Nat.zero_add, Nat.le_refl, Nat.zero_le, List.length_cons, List.length_nil, true_and, and_true, true_or, or_true, eq_self, forall_const, true_implies, not_true_eq_false, not_false_eq_true, false_implies, implies_true, false_and, and_false, false_or, or_false]
  have c_0 : Int32.toNatClampNeg 8 = 8 := by decide
  have z_0 : ((8 : Int32) < 0) = False := eq_false (by decide)
  obtain ⟨F1, O1, S1⟩ := FF_s (k := 0) (t := 100) (n := 8) F0 (by simp)
  simp only [xX6_init_4, xX6_init_5, xX6_init_7, xX6_init_9, Bool.false_eq_true, if_true, if_false, kl_i, kl_a, kl_s, kl_u, kl_l, okS_nil, okS_cons, cat_i, cat_a, cat_s, cat_l, Nat.reduceAdd, Nat.reduceLeDiff, Nat.reduceSub, Nat.sub_zero, Nat.sub_self, Nat.zero_add, Nat.le_refl, Nat.zero_le, List.length_cons, List.length_nil, true_and, and_true, true_or, or_true, eq_self, forall_const, true_implies, not_true_eq_false, not_false_eq_true, false_implies, implies_true, false_and, and_false, false_or, or_false, c_0, z_0, O1, zeM_z, zeL_z]
  generalize upR (upN σ 100 8) 199 0 (.ref σ.1) = σ1 at F1 S1 ⊢
  have c_1 : Int32.toNatClampNeg 8 = 8 := by decide
  have z_1 : ((8 : Int32) < 0) = False := eq_false (by decide)
  obtain ⟨F2, O2, S2⟩ := FF_s (k := 1) (t := 100) (n := 8) F1 (by simp)
  simp only [xX6_init_12, xX6_init_13, xX6_init_15, xX6_init_17, Bool.false_eq_true, if_true, if_false, kl_i, kl_a, kl_s, kl_u, kl_l, okS_nil, okS_cons, cat_i, cat_a, cat_s, cat_l, Nat.reduceAdd, Nat.reduceLeDiff, Nat.reduceSub, Nat.sub_zero, Nat.sub_self, Nat.zero_add, Nat.le_refl, Nat.zero_le, List.length_cons, List.length_nil, true_and, and_true, true_or, or_true, eq_self, forall_const, true_implies, not_true_eq_false, not_false_eq_true, false_implies, implies_true, false_and, and_false, false_or, or_false, c_1, z_1, O2, zeM_z, zeL_z]
  generalize upR (upN σ1 100 8) 199 1 (.ref σ1.1) = σ2 at F2 S2 ⊢
  have c_2 : Int32.toNatClampNeg 320 = 320 := by decide
  have z_2 : ((320 : Int32) < 0) = False := eq_false (by decide)
  obtain ⟨F3, O3, S3⟩ := FF_s (k := 2) (t := 100) (n := 320) F2 (by simp)
  simp only [xX6_init_20, xX6_init_21, xX6_init_24, xX6_init_26, Bool.false_eq_true, if_true, if_false, kl_i, kl_a, kl_s, kl_u, kl_l, okS_nil, okS_cons, cat_i, cat_a, cat_s, cat_l, Nat.reduceAdd, Nat.reduceLeDiff, Nat.reduceSub, Nat.sub_zero, Nat.sub_self, Nat.zero_add, Nat.le_refl, Nat.zero_le, List.length_cons, List.length_nil, true_and, and_true, true_or, or_true, eq_self, forall_const, true_implies, not_true_eq_false, not_false_eq_true, false_implies, implies_true, false_and, and_false, false_or, or_false, c_2, z_2, O3, zeM_z, zeL_z]
  generalize upR (upN σ2 100 320) 199 2 (.ref σ2.1) = σ3 at F3 S3 ⊢
  have c_3 : Int32.toNatClampNeg 400 = 400 := by decide
  have z_3 : ((400 : Int32) < 0) = False := eq_false (by decide)
  obtain ⟨F4, O4, S4⟩ := FF_s (k := 4) (t := 100) (n := 400) F3 (by simp)
  simp only [xX6_init_29, xX6_init_30, xX6_init_33, xX6_init_35, Bool.false_eq_true, if_true, if_false, kl_i, kl_a, kl_s, kl_u, kl_l, okS_nil, okS_cons, cat_i, cat_a, cat_s, cat_l, Nat.reduceAdd, Nat.reduceLeDiff, Nat.reduceSub, Nat.sub_zero, Nat.sub_self, Nat.zero_add, Nat.le_refl, Nat.zero_le, List.length_cons, List.length_nil, true_and, and_true, true_or, or_true, eq_self, forall_const, true_implies, not_true_eq_false, not_false_eq_true, false_implies, implies_true, false_and, and_false, false_or, or_false, c_3, z_3, O4, zeM_z, zeL_z]
  generalize upR (upN σ3 100 400) 199 4 (.ref σ3.1) = σ4 at F4 S4 ⊢
  have c_4 : Int32.toNatClampNeg 40 = 40 := by decide
  have z_4 : ((40 : Int32) < 0) = False := eq_false (by decide)
  obtain ⟨F5, O5, S5⟩ := FF_s (k := 8) (t := 100) (n := 40) F4 (by simp)
  simp only [xX6_init_38, xX6_init_39, xX6_init_41, xX6_init_43, Bool.false_eq_true, if_true, if_false, kl_i, kl_a, kl_s, kl_u, kl_l, okS_nil, okS_cons, cat_i, cat_a, cat_s, cat_l, Nat.reduceAdd, Nat.reduceLeDiff, Nat.reduceSub, Nat.sub_zero, Nat.sub_self, Nat.zero_add, Nat.le_refl, Nat.zero_le, List.length_cons, List.length_nil, true_and, and_true, true_or, or_true, eq_self, forall_const, true_implies, not_true_eq_false, not_false_eq_true, false_implies, implies_true, false_and, and_false, false_or, or_false, c_4, z_4, O5, zeM_z, zeL_z]
  generalize upR (upN σ4 100 40) 199 8 (.ref σ4.1) = σ5 at F5 S5 ⊢
  have c_5 : Int32.toNatClampNeg 960 = 960 := by decide
  have z_5 : ((960 : Int32) < 0) = False := eq_false (by decide)
  obtain ⟨F6, O6, S6⟩ := FF_s (k := 10) (t := 100) (n := 960) F5 (by simp)
  simp only [xX6_init_46, xX6_init_47, xX6_init_50, xX6_init_52, Bool.false_eq_true, if_true, if_false, kl_i, kl_a, kl_s, kl_u, kl_l, okS_nil, okS_cons, cat_i, cat_a, cat_s, cat_l, Nat.reduceAdd, Nat.reduceLeDiff, Nat.reduceSub, Nat.sub_zero, Nat.sub_self, Nat.zero_add, Nat.le_refl, Nat.zero_le, List.length_cons, List.length_nil, true_and, and_true, true_or, or_true, eq_self, forall_const, true_implies, not_true_eq_false, not_false_eq_true, false_implies, implies_true, false_and, and_false, false_or, or_false, c_5, z_5, O6, zeM_z, zeL_z]
  generalize upR (upN σ5 100 960) 199 10 (.ref σ5.1) = σ6 at F6 S6 ⊢
  have c_6 : Int32.toNatClampNeg 80 = 80 := by decide
  have z_6 : ((80 : Int32) < 0) = False := eq_false (by decide)
  obtain ⟨F7, O7, S7⟩ := FF_s (k := 11) (t := 100) (n := 80) F6 (by simp)
  simp only [xX6_init_55, xX6_init_56, xX6_init_58, xX6_init_60, Bool.false_eq_true, if_true, if_false, kl_i, kl_a, kl_s, kl_u, kl_l, okS_nil, okS_cons, cat_i, cat_a, cat_s, cat_l, Nat.reduceAdd, Nat.reduceLeDiff, Nat.reduceSub, Nat.sub_zero, Nat.sub_self, Nat.zero_add, Nat.le_refl, Nat.zero_le, List.length_cons, List.length_nil, true_and, and_true, true_or, or_true, eq_self, forall_const, true_implies, not_true_eq_false, not_false_eq_true, false_implies, implies_true, false_and, and_false, false_or, or_false, c_6, z_6, O7, zeM_z, zeL_z]
  generalize upR (upN σ6 100 80) 199 11 (.ref σ6.1) = σ7 at F7 S7 ⊢
  have c_7 : Int32.toNatClampNeg 2 = 2 := by decide
  have z_7 : ((2 : Int32) < 0) = False := eq_false (by decide)
  obtain ⟨F8, O8, S8⟩ := FF_s (k := 12) (t := 102) (n := 2) F7 (by simp)
  simp only [xX6_init_63, xX6_init_64, xX6_init_65, xX6_init_67, Bool.false_eq_true, if_true, if_false, kl_i, kl_a, kl_s, kl_u, kl_l, okS_nil, okS_cons, cat_i, cat_a, cat_s, cat_l, Nat.reduceAdd, Nat.reduceLeDiff, Nat.reduceSub, Nat.sub_zero, Nat.sub_self, Nat.zero_add, Nat.le_refl, Nat.zero_le, List.length_cons, List.length_nil, true_and, and_true, true_or, or_true, eq_self, forall_const, true_implies, not_true_eq_false, not_false_eq_true, false_implies, implies_true, false_and, and_false, false_or, or_false, c_7, z_7, O8, zeM_z, zeL_z]
  generalize upR (upN σ7 102 2) 199 12 (.ref σ7.1) = σ8 at F8 S8 ⊢
  have c_8 : Int32.toNatClampNeg 16 = 16 := by decide
  have z_8 : ((16 : Int32) < 0) = False := eq_false (by decide)
  obtain ⟨F9, O9, S9⟩ := FF_s (k := 14) (t := 100) (n := 16) F8 (by simp)
  simp only [xX6_init_70, xX6_init_71, xX6_init_73, xX6_init_75, Bool.false_eq_true, if_true, if_false, kl_i, kl_a, kl_s, kl_u, kl_l, okS_nil, okS_cons, cat_i, cat_a, cat_s, cat_l, Nat.reduceAdd, Nat.reduceLeDiff, Nat.reduceSub, Nat.sub_zero, Nat.sub_self, Nat.zero_add, Nat.le_refl, Nat.zero_le, List.length_cons, List.length_nil, true_and, and_true, true_or, or_true, eq_self, forall_const, true_implies, not_true_eq_false, not_false_eq_true, false_implies, implies_true, false_and, and_false, false_or, or_false, c_8, z_8, O9, zeM_z, zeL_z]
  generalize upR (upN σ8 100 16) 199 14 (.ref σ8.1) = σ9 at F9 S9 ⊢
  have c_9 : Int32.toNatClampNeg 40 = 40 := by decide
  have z_9 : ((40 : Int32) < 0) = False := eq_false (by decide)
  obtain ⟨F10, O10, S10⟩ := FF_s (k := 20) (t := 100) (n := 40) F9 (by simp)
  simp only [xX6_init_78, xX6_init_79, xX6_init_81, xX6_init_83, Bool.false_eq_true, if_true, if_false, kl_i, kl_a, kl_s, kl_u, kl_l, okS_nil, okS_cons, cat_i, cat_a, cat_s, cat_l, Nat.reduceAdd, Nat.reduceLeDiff, Nat.reduceSub, Nat.sub_zero, Nat.sub_self, Nat.zero_add, Nat.le_refl, Nat.zero_le, List.length_cons, List.length_nil, true_and, and_true, true_or, or_true, eq_self, forall_const, true_implies, not_true_eq_false, not_false_eq_true, false_implies, implies_true, false_and, and_false, false_or, or_false, c_9, z_9, O10, zeM_z, zeL_z]
  generalize upR (upN σ9 100 40) 199 20 (.ref σ9.1) = σ10 at F10 S10 ⊢
  have c_10 : Int32.toNatClampNeg 40 = 40 := by decide
  have z_10 : ((40 : Int32) < 0) = False := eq_false (by decide)
  obtain ⟨F11, O11, S11⟩ := FF_s (k := 21) (t := 100) (n := 40) F10 (by simp)
  simp only [xX6_init_86, xX6_init_87, xX6_init_89, xX6_init_91, Bool.false_eq_true, if_true, if_false, kl_i, kl_a, kl_s, kl_u, kl_l, okS_nil, okS_cons, cat_i, cat_a, cat_s, cat_l, Nat.reduceAdd, Nat.reduceLeDiff, Nat.reduceSub, Nat.sub_zero, Nat.sub_self, Nat.zero_add, Nat.le_refl, Nat.zero_le, List.length_cons, List.length_nil, true_and, and_true, true_or, or_true, eq_self, forall_const, true_implies, not_true_eq_false, not_false_eq_true, false_implies, implies_true, false_and, and_false, false_or, or_false, c_10, z_10, O11, zeM_z, zeL_z]
  generalize upR (upN σ10 100 40) 199 21 (.ref σ10.1) = σ11 at F11 S11 ⊢
  have c_11 : Int32.toNatClampNeg 7 = 7 := by decide
  have z_11 : ((7 : Int32) < 0) = False := eq_false (by decide)
  obtain ⟨F12, O12, S12⟩ := FF_s (k := 22) (t := 100) (n := 7) F11 (by simp)
  simp only [xX6_init_94, xX6_init_95, xX6_init_97, xX6_init_99, Bool.false_eq_true, if_true, if_false, kl_i, kl_a, kl_s, kl_u, kl_l, okS_nil, okS_cons, cat_i, cat_a, cat_s, cat_l, Nat.reduceAdd, Nat.reduceLeDiff, Nat.reduceSub, Nat.sub_zero, Nat.sub_self, Nat.zero_add, Nat.le_refl, Nat.zero_le, List.length_cons, List.length_nil, true_and, and_true, true_or, or_true, eq_self, forall_const, true_implies, not_true_eq_false, not_false_eq_true, false_implies, implies_true, false_and, and_false, false_or, or_false, c_11, z_11, O12, zeM_z, zeL_z]
  generalize upR (upN σ11 100 7) 199 22 (.ref σ11.1) = σ12 at F12 S12 ⊢
  simp only [xX6_init_102, xX6_init_103, Bool.false_eq_true, if_true, if_false, kl_i, kl_a, kl_s, kl_u, kl_l, okS_nil, okS_cons, cat_i, cat_a, cat_s, cat_l, Nat.reduceAdd, Nat.reduceLeDiff, Nat.reduceSub, Nat.sub_zero, Nat.sub_self, Nat.zero_add, Nat.le_refl, Nat.zero_le, List.length_cons, List.length_nil, true_and, and_true, true_or, or_true, eq_self, forall_const, true_implies, not_true_eq_false, not_false_eq_true, false_implies, implies_true, false_and, and_false, false_or, or_false]
  rw [← szM_0]
  refine l_X6 F12.2.1 (F12.2.2 1 _ rfl).1 (F12.2.2 1 _ rfl).2.1 (F12.2.2 1 _ rfl).2.2 ?_ 8 0 (by omega)
  exact hQ σ12 ⟨F12.2.1, (F12.2.2 0 _ rfl).1, (F12.2.2 1 _ rfl).1, (F12.2.2 2 _ rfl).1, (F12.2.2 3 _ rfl).1, (F12.2.2 4 _ rfl).1, (F12.2.2 5 _ rfl).1, (F12.2.2 6 _ rfl).1, (F12.2.2 7 _ rfl).1, (F12.2.2 8 _ rfl).1, (F12.2.2 9 _ rfl).1, (F12.2.2 10 _ rfl).1, (F12.2.2 11 _ rfl).1, (F12.2.2 0 _ rfl).2.1, (F12.2.2 0 _ rfl).2.2, (F12.2.2 1 _ rfl).2.1, (F12.2.2 1 _ rfl).2.2, (F12.2.2 2 _ rfl).2.1, (F12.2.2 2 _ rfl).2.2, (F12.2.2 3 _ rfl).2.1, (F12.2.2 3 _ rfl).2.2, (F12.2.2 4 _ rfl).2.1, (F12.2.2 4 _ rfl).2.2, (F12.2.2 5 _ rfl).2.1, (F12.2.2 5 _ rfl).2.2, (F12.2.2 6 _ rfl).2.1, (F12.2.2 6 _ rfl).2.2, (F12.2.2 7 _ rfl).2.1, (F12.2.2 7 _ rfl).2.2, (F12.2.2 8 _ rfl).2.1, (F12.2.2 8 _ rfl).2.2, (F12.2.2 9 _ rfl).2.1, (F12.2.2 9 _ rfl).2.2, (F12.2.2 10 _ rfl).2.1, (F12.2.2 10 _ rfl).2.2, (F12.2.2 11 _ rfl).2.1, (F12.2.2 11 _ rfl).2.2⟩ (smS_t (smS_t (smS_t (smS_t (smS_t (smS_t (smS_t (smS_t (smS_t (smS_t (smS_t S1 S2) S3) S4) S5) S6) S7) S8) S9) S10) S11) S12) F12.1
