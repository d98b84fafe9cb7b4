/-! CONSTRUCTORS: the class -/
/-- the class's object: what it refers to so far -/
def BB (σ : Sg) (n : Nat) (L : List (Nat × Nat)) : Prop := σ.1 = n ∧ isO σ 0 5 ∧ ∀ q ∈ L, rf σ 0 q.1 = .ref q.2
theorem BB_s {σ σ' : Sg} {n n' : Nat} {L : List (Nat × Nat)} (h : BB σ n L) (hs : smS σ σ' 0 1) (e : σ'.1 = n') (h0 : 0 < n') : BB σ' n' L := by
  have e0 := hs 0 (by omega) (by omega)
  exact ⟨e, isO_s h.2.1 (by omega) e0.1, fun q hq => (rf_s e0.2 _).trans (h.2.2 q hq)⟩
theorem BB_p {σ : Sg} {n k x : Nat} {L : List (Nat × Nat)} (h : BB σ n L) (hk : ∀ q ∈ L, q.1 ≠ k) : BB (upR σ 0 k (.ref x)) n (L ++ [(k, x)]) := by
  refine ⟨h.1, h.2.1, fun q hq => ?_⟩
  rw [rf_R]
  rcases List.mem_append.mp hq with g | g
  · rw [if_neg (hk q g)]
    exact h.2.2 q g
  · have e : q = (k, x) := List.mem_singleton.mp g
    subst e
    exact if_pos rfl
theorem ob_n {σ s : Sg} {n n' t m k : Nat} {L : List (Nat × Nat)} (h : BB σ n L) (h0 : 0 < n) (h1 : 0 < n') (e : s.1 = n') (S : smS (upN σ t m) s 0 n) (hk : ∀ q ∈ L, q.1 ≠ k) : isO s 0 5 ∧ BB (upR s 0 k (.ref n)) n' (L ++ [(k, n)]) ∧ smS σ (upR s 0 k (.ref n)) 1 n := by
  have S3 : smS σ s 0 n := smS_t (smN σ t m (by have := h.1; omega)) S
  have b := BB_s h (smS_w S3 (by omega) (by omega)) e h1
  exact ⟨b.2.1, BB_p b hk, smS_t (smS_w S3 (by omega) (by omega)) (smR _ _ _ _ (by omega))⟩
theorem l_X5r {K : Cx} {d B1 B2 : Nat} {Q : Rt} (hQ : ∀ σ' c1 c2, BB σ' 18 [(0, 1)] → wfR σ' → B1 ≤ c1 → B2 ≤ c2 → WX (tX5_init K (d + 2)) Q (40, [.ref 0, .int (nI 8)], [], (c1, c2), σ', zM, zL)) : ∀ (k v : Nat) (σ : Sg) (b1 b2 : Nat), v + k = 8 → BB σ (2 + 2 * v) [(0, 1)] → isO σ 1 112 → ln σ 1 = 8 →
    (∀ j, j < v → rf σ 1 j = .ref (2 + 2 * j) ∧ isRw σ (2 + 2 * j)) → 2 * k + B1 ≤ b1 → 44 * k + B2 ≤ b2 → WX (tX5_init K (d + 2)) Q (15, [.ref 0, .int (nI v)], [], (b1, b2), σ, zM, zL) := by
  intro k
  induction k with
  | zero =>
    intro v σ b1 b2 hv hB a3 a4 a5 hb1 hb2
    obtain rfl : v = 8 := by omega
    have c1 : (nI 8 < 8) = False := eq_false (by decide)
    rw [xX5_init_15]
    simp only [xX5_init_16, xX5_init_18, Bool.false_eq_true, if_true, if_false, kl_i, kl_a, kl_s, kl_u, kl_l, okS_nil, okS_cons, cat_i, cat_a, cat_s, cat_l, Nat.reduceAdd, Nat.reduceLeDiff, Nat.reduceSub, Nat.sub_zero, Nat.sub_self, Nat.zero_add, Nat.le_refl, Nat.zero_le, List.length_cons, List.length_nil, true_and, and_true, true_or, or_true, eq_self, forall_const, true_implies, not_true_eq_false, not_false_eq_true, false_implies, implies_true, false_and, and_false, false_or, or_false, c1]
    exact hQ σ b1 b2 hB ⟨a3, a4, a5⟩ (by omega) (by omega)
  | succ k ih =>
    intro v σ b1 b2 hv hB a3 a4 a5 hb1 hb2
    have c1 : (nI v < 8) = True := (ltN (a := v) (b := 8) (by omega) (by omega)).trans (eq_true (by omega))
    have hcv := clN (v := v) (by omega)
    have hiv := inN (v := v) (n := 8) (by omega) (by omega)
    have e1 : σ.1 = 2 + 2 * v := hB.1
    have a1 := hB.2.1
    have a2 : rf σ 0 0 = .ref 1 := hB.2.2 (0, 1) List.mem_cons_self
    rw [xX5_init_15]
    simp only [xX5_init_16, xX5_init_18, xX5_init_21, xX5_init_22, xX5_init_25, xX5_init_26, xX5_init_29, xX5_init_30, xX5_init_33, xX5_init_34, xX5_init_37, Bool.false_eq_true, if_true, if_false, kl_i, kl_a, kl_s, kl_u, kl_l, okS_nil, okS_cons, cat_i, cat_a, cat_s, cat_l, Nat.reduceAdd, Nat.reduceLeDiff, Nat.reduceSub, Nat.sub_zero, Nat.sub_self, Nat.zero_add, Nat.le_refl, Nat.zero_le, List.length_cons, List.length_nil, true_and, and_true, true_or, or_true, eq_self, forall_const, true_implies, not_true_eq_false, not_false_eq_true, false_implies, implies_true, false_and, and_false, false_or, or_false, c1, a1, a2, e1, zeM_z, zeL_z, hcv, nI1]
    refine ⟨by omega, by omega, by omega, by omega, ?_⟩
    have sN : smS σ (upN σ 2 4) 0 (2 + 2 * v) := smN σ 2 4 (by omega)
    refine c_X2 (p := 2 + 2 * v) (by rw [N_1, e1]) (isO_N 2 4 e1) (fun s e2 P2 S2 => ?_)
    have S3 := smS_t sN S2
    have e01 := S3 1 (by omega) (by omega)
    have o01 : isO s 1 112 := isO_s a3 (by omega) e01.1
    have l01 : ln s 1 = 8 := (ln_s e01.1).trans a4
    refine ⟨o01, P2.1, by rw [l01]; exact hiv, ?_⟩
    have S4 : smS σ (upR s 1 v (.ref (2 + 2 * v))) 2 (2 + 2 * v) := smS_t (smS_w S3 (by omega) (by omega)) (smR _ _ _ _ (by omega))
    have S5 : smS σ (upR s 1 v (.ref (2 + 2 * v))) 0 1 := smS_t (smS_w S3 (by omega) (by omega)) (smR _ _ _ _ (by omega))
    refine ih (v + 1) _ _ _ (by omega) (BB_s hB S5 (by rw [R_1, e2]; omega) (by omega)) o01 l01 (fun j hj => ?_) (by omega) (by omega)
    rw [rf_R]
    by_cases hjv : j = v
    · subst hjv
      exact ⟨if_pos rfl, isRw_s (smR _ _ _ _ (by omega)) (by rw [R_1]; omega) P2⟩
    · rw [if_neg hjv]
      exact ⟨(rf_s e01.2 j).trans (a5 j (by omega)).1, isRw_s (smS_w S4 (by omega) (by omega)) (by rw [R_1]; omega) (a5 j (by omega)).2⟩
theorem l_X5i {K : Cx} {d B1 B2 : Nat} {Q : Rt} (hQ : ∀ σ' c1 c2, BB σ' 31 [(0, 1), (6, 18)] → wfR σ' → wfI σ' → B1 ≤ c1 → B2 ≤ c2 → WX (tX5_init K (d + 2)) Q (74, [.ref 0, .int (nI 2)], [], (c1, c2), σ', zM, zL)) : ∀ (k v : Nat) (σ : Sg) (b1 b2 : Nat), v + k = 2 → BB σ (19 + 6 * v) [(0, 1), (6, 18)] → wfR σ → isO σ 18 111 → ln σ 18 = 2 →
    (∀ j, j < v → rf σ 18 j = .ref (19 + 6 * j) ∧ isP σ (19 + 6 * j)) → 6 * k + B1 ≤ b1 → 46 * k + B2 ≤ b2 → WX (tX5_init K (d + 2)) Q (50, [.ref 0, .int (nI v)], [], (b1, b2), σ, zM, zL) := by
  intro k
  induction k with
  | zero =>
    intro v σ b1 b2 hv hB hR a3 a4 a5 hb1 hb2
    obtain rfl : v = 2 := by omega
    have c1 : (nI 2 < 2) = False := eq_false (by decide)
    rw [xX5_init_50]
    simp only [xX5_init_51, xX5_init_52, Bool.false_eq_true, if_true, if_false, kl_i, kl_a, kl_s, kl_u, kl_l, okS_nil, okS_cons, cat_i, cat_a, cat_s, cat_l, Nat.reduceAdd, Nat.reduceLeDiff, Nat.reduceSub, Nat.sub_zero, Nat.sub_self, Nat.zero_add, Nat.le_refl, Nat.zero_le, List.length_cons, List.length_nil, true_and, and_true, true_or, or_true, eq_self, forall_const, true_implies, not_true_eq_false, not_false_eq_true, false_implies, implies_true, false_and, and_false, false_or, or_false, c1]
    exact hQ σ b1 b2 hB hR ⟨a3, a4, a5⟩ (by omega) (by omega)
  | succ k ih =>
    intro v σ b1 b2 hv hB hR a3 a4 a5 hb1 hb2
    have c1 : (nI v < 2) = True := (ltN (a := v) (b := 2) (by omega) (by omega)).trans (eq_true (by omega))
    have hcv := clN (v := v) (by omega)
    have hiv := inN (v := v) (n := 2) (by omega) (by omega)
    have e1 : σ.1 = 19 + 6 * v := hB.1
    have a1 := hB.2.1
    have a2 : rf σ 0 6 = .ref 18 := hB.2.2 (6, 18) (by simp)
    rw [xX5_init_50]
    simp only [xX5_init_51, xX5_init_52, xX5_init_55, xX5_init_56, xX5_init_59, xX5_init_60, xX5_init_63, xX5_init_64, xX5_init_67, xX5_init_68, xX5_init_71, Bool.false_eq_true, if_true, if_false, kl_i, kl_a, kl_s, kl_u, kl_l, okS_nil, okS_cons, cat_i, cat_a, cat_s, cat_l, Nat.reduceAdd, Nat.reduceLeDiff, Nat.reduceSub, Nat.sub_zero, Nat.sub_self, Nat.zero_add, Nat.le_refl, Nat.zero_le, List.length_cons, List.length_nil, true_and, and_true, true_or, or_true, eq_self, forall_const, true_implies, not_true_eq_false, not_false_eq_true, false_implies, implies_true, false_and, and_false, false_or, or_false, c1, a1, a2, e1, zeM_z, zeL_z, hcv, nI1]
    refine ⟨by omega, by omega, by omega, by omega, ?_⟩
    have sN : smS σ (upN σ 1 11) 0 (19 + 6 * v) := smN σ 1 11 (by omega)
    refine c_X1 (p := 19 + 6 * v) (by rw [N_1, e1]) (isO_N 1 11 e1) (fun s e2 P2 S2 => ?_)
    have S3 := smS_t sN S2
    have e01 := S3 18 (by omega) (by omega)
    have o01 : isO s 18 111 := isO_s a3 (by omega) e01.1
    have l01 : ln s 18 = 2 := (ln_s e01.1).trans a4
    refine ⟨o01, P2.1, by rw [l01]; exact hiv, ?_⟩
    have S4 : smS σ (upR s 18 v (.ref (19 + 6 * v))) 19 (19 + 6 * v) := smS_t (smS_w S3 (by omega) (by omega)) (smR _ _ _ _ (by omega))
    have S5 : smS σ (upR s 18 v (.ref (19 + 6 * v))) 0 18 := smS_t (smS_w S3 (by omega) (by omega)) (smR _ _ _ _ (by omega))
    refine ih (v + 1) _ _ _ (by omega) (BB_s hB (smS_w S5 (by omega) (by omega)) (by rw [R_1, e2]; omega) (by omega)) (wfR_s (smS_w S5 (by omega) (by omega)) (by rw [R_1]; omega) hR) o01 l01 (fun j hj => ?_) (by omega) (by omega)
    rw [rf_R]
    by_cases hjv : j = v
    · subst hjv
      exact ⟨if_pos rfl, isP_s (smR _ _ _ _ (by omega)) (by rw [R_1]; omega) P2⟩
    · rw [if_neg hjv]
      exact ⟨(rf_s e01.2 j).trans (a5 j (by omega)).1, isP_s (smS_w S4 (by omega) (by omega)) (by rw [R_1]; omega) (a5 j (by omega)).2⟩
theorem k_X5 {K : Cx} {d c1 c2 : Nat} {σ : Sg} {Q : Rt} {e : Value} (B0 : BB σ 31 [(0, 1), (6, 18)]) (R0 : wfR σ) (I0 : wfI σ) (h1 : 168 ≤ c1) (h2 : 1695 ≤ c2) (hQ : ∀ σ', σ'.1 = 199 → wfN σ' → wfR σ' → wfT σ' → wfA σ' → wfL σ' → wfI σ' → Q 0 σ' zM zL) : WX (tX5_init K (d + 2)) Q (74, [.ref 0, e], [], (c1, c2), σ, zM, zL) := by
  have e_0 : σ.1 = 31 := B0.1
  simp only [xX5_init_74, xX5_init_75, xX5_init_78, xX5_init_79, xX5_init_82, Bool.false_eq_true, if_true, if_false, kl_i, kl_a, kl_s, kl_u, kl_l, okS_nil, okS_cons, cat_i, cat_a, cat_s, cat_l, Nat.reduceAdd, Nat.reduceLeDiff, Nat.reduceSub, Nat.sub_zero, Nat.sub_self, Nat.zero_add, Nat.le_refl, Nat.zero_le, List.length_cons, List.length_nil, true_and, and_true, true_or, or_true, eq_self, forall_const, true_implies, not_true_eq_false, not_false_eq_true, false_implies, implies_true, false_and, and_false, false_or, or_false, e_0, zeM_z, zeL_z]
  refine ⟨by omega, by omega, by omega, by omega, ?_⟩
  refine c_X3 (p := 31) (by rw [N_1, e_0]) (isO_N 3 8 e_0) (fun s f_0 C1 S_0 => ?_)
  obtain ⟨O1, B1, S1⟩ := ob_n (n' := 33) (k := 1) B0 (by omega) (by omega) f_0 S_0 (by simp)
  refine ⟨O1, ?_⟩
  have T1 : smS s (upR s 0 1 (.ref 31)) 1 33 := smR _ _ _ _ (by omega)
  have g_0 : (upR s 0 1 (.ref 31)).1 = 33 := f_0
  have R1 := wfR_s (smS_w S1 (by omega) (by omega)) (by omega) R0
  have I1 := wfI_s (smS_w S1 (by omega) (by omega)) (by omega) I0
  have D1 := ob1_s (smS_w T1 (by omega) (by omega)) (by omega) C1
  generalize upR s 0 1 (.ref 31) = σ1 at B1 S1 R1 I1 D1 g_0 ⊢
  have e_1 : σ1.1 = 33 := B1.1
  simp only [xX5_init_85, xX5_init_86, xX5_init_89, xX5_init_90, xX5_init_93, Bool.false_eq_true, if_true, if_false, kl_i, kl_a, kl_s, kl_u, kl_l, okS_nil, okS_cons, cat_i, cat_a, cat_s, cat_l, Nat.reduceAdd, Nat.reduceLeDiff, Nat.reduceSub, Nat.sub_zero, Nat.sub_self, Nat.zero_add, Nat.le_refl, Nat.zero_le, List.length_cons, List.length_nil, true_and, and_true, true_or, or_true, eq_self, forall_const, true_implies, not_true_eq_false, not_false_eq_true, false_implies, implies_true, false_and, and_false, false_or, or_false, e_1, zeM_z, zeL_z]
  refine ⟨by omega, by omega, by omega, by omega, ?_⟩
  refine c_X1 (p := 33) (by rw [N_1, e_1]) (isO_N 1 11 e_1) (fun s f_1 C2 S_1 => ?_)
  obtain ⟨O2, B2, S2⟩ := ob_n (n' := 39) (k := 2) B1 (by omega) (by omega) f_1 S_1 (by simp)
  refine ⟨O2, ?_⟩
  have T2 : smS s (upR s 0 2 (.ref 33)) 1 39 := smR _ _ _ _ (by omega)
  have g_1 : (upR s 0 2 (.ref 33)).1 = 39 := f_1
  have R2 := wfR_s (smS_w S2 (by omega) (by omega)) (by omega) R1
  have I2 := wfI_s (smS_w S2 (by omega) (by omega)) (by omega) I1
  have D1 := ob1_s (smS_w S2 (by omega) (by omega)) (by omega) D1
  have D2 := isP_s (smS_w T2 (by omega) (by omega)) (by omega) C2
  generalize upR s 0 2 (.ref 33) = σ2 at B2 S2 R2 I2 D1 D2 g_1 ⊢
  have e_2 : σ2.1 = 39 := B2.1
  simp only [xX5_init_96, xX5_init_97, xX5_init_100, xX5_init_101, xX5_init_104, Bool.false_eq_true, if_true, if_false, kl_i, kl_a, kl_s, kl_u, kl_l, okS_nil, okS_cons, cat_i, cat_a, cat_s, cat_l, Nat.reduceAdd, Nat.reduceLeDiff, Nat.reduceSub, Nat.sub_zero, Nat.sub_self, Nat.zero_add, Nat.le_refl, Nat.zero_le, List.length_cons, List.length_nil, true_and, and_true, true_or, or_true, eq_self, forall_const, true_implies, not_true_eq_false, not_false_eq_true, false_implies, implies_true, false_and, and_false, false_or, or_false, e_2, zeM_z, zeL_z]
  refine ⟨by omega, by omega, by omega, by omega, ?_⟩
  refine c_X1 (p := 39) (by rw [N_1, e_2]) (isO_N 1 11 e_2) (fun s f_2 C3 S_2 => ?_)
  obtain ⟨O3, B3, S3⟩ := ob_n (n' := 45) (k := 3) B2 (by omega) (by omega) f_2 S_2 (by simp)
  refine ⟨O3, ?_⟩
  have T3 : smS s (upR s 0 3 (.ref 39)) 1 45 := smR _ _ _ _ (by omega)
  have g_2 : (upR s 0 3 (.ref 39)).1 = 45 := f_2
  have R3 := wfR_s (smS_w S3 (by omega) (by omega)) (by omega) R2
  have I3 := wfI_s (smS_w S3 (by omega) (by omega)) (by omega) I2
  have D1 := ob1_s (smS_w S3 (by omega) (by omega)) (by omega) D1
  have D2 := isP_s (smS_w S3 (by omega) (by omega)) (by omega) D2
  have D3 := isP_s (smS_w T3 (by omega) (by omega)) (by omega) C3
  generalize upR s 0 3 (.ref 39) = σ3 at B3 S3 R3 I3 D1 D2 D3 g_2 ⊢
  have e_3 : σ3.1 = 45 := B3.1
  simp only [xX5_init_107, xX5_init_108, xX5_init_111, xX5_init_112, xX5_init_115, Bool.false_eq_true, if_true, if_false, kl_i, kl_a, kl_s, kl_u, kl_l, okS_nil, okS_cons, cat_i, cat_a, cat_s, cat_l, Nat.reduceAdd, Nat.reduceLeDiff, Nat.reduceSub, Nat.sub_zero, Nat.sub_self, Nat.zero_add, Nat.le_refl, Nat.zero_le, List.length_cons, List.length_nil, true_and, and_true, true_or, or_true, eq_self, forall_const, true_implies, not_true_eq_false, not_false_eq_true, false_implies, implies_true, false_and, and_false, false_or, or_false, e_3, zeM_z, zeL_z]
  refine ⟨by omega, by omega, by omega, by omega, ?_⟩
  refine c_X1 (p := 45) (by rw [N_1, e_3]) (isO_N 1 11 e_3) (fun s f_3 C4 S_3 => ?_)
  obtain ⟨O4, B4, S4⟩ := ob_n (n' := 51) (k := 4) B3 (by omega) (by omega) f_3 S_3 (by simp)
  refine ⟨O4, ?_⟩
  have T4 : smS s (upR s 0 4 (.ref 45)) 1 51 := smR _ _ _ _ (by omega)
  have g_3 : (upR s 0 4 (.ref 45)).1 = 51 := f_3
  have R4 := wfR_s (smS_w S4 (by omega) (by omega)) (by omega) R3
  have I4 := wfI_s (smS_w S4 (by omega) (by omega)) (by omega) I3
  have D1 := ob1_s (smS_w S4 (by omega) (by omega)) (by omega) D1
  have D2 := isP_s (smS_w S4 (by omega) (by omega)) (by omega) D2
  have D3 := isP_s (smS_w S4 (by omega) (by omega)) (by omega) D3
  have D4 := isP_s (smS_w T4 (by omega) (by omega)) (by omega) C4
  generalize upR s 0 4 (.ref 45) = σ4 at B4 S4 R4 I4 D1 D2 D3 D4 g_3 ⊢
  have e_4 : σ4.1 = 51 := B4.1
  simp only [xX5_init_118, xX5_init_119, xX5_init_122, xX5_init_123, xX5_init_126, Bool.false_eq_true, if_true, if_false, kl_i, kl_a, kl_s, kl_u, kl_l, okS_nil, okS_cons, cat_i, cat_a, cat_s, cat_l, Nat.reduceAdd, Nat.reduceLeDiff, Nat.reduceSub, Nat.sub_zero, Nat.sub_self, Nat.zero_add, Nat.le_refl, Nat.zero_le, List.length_cons, List.length_nil, true_and, and_true, true_or, or_true, eq_self, forall_const, true_implies, not_true_eq_false, not_false_eq_true, false_implies, implies_true, false_and, and_false, false_or, or_false, e_4, zeM_z, zeL_z]
  refine ⟨by omega, by omega, by omega, by omega, ?_⟩
  refine c_X0 (by rw [N_1, e_4]) (isO_N 0 3 e_4) (fun s f_4 C5 S_4 => ?_)
  obtain ⟨O5, B5, S5⟩ := ob_n (n' := 197) (k := 5) B4 (by omega) (by omega) f_4 S_4 (by simp)
  refine ⟨O5, ?_⟩
  have T5 : smS s (upR s 0 5 (.ref 51)) 1 197 := smR _ _ _ _ (by omega)
  have g_4 : (upR s 0 5 (.ref 51)).1 = 197 := f_4
  have R5 := wfR_s (smS_w S5 (by omega) (by omega)) (by omega) R4
  have I5 := wfI_s (smS_w S5 (by omega) (by omega)) (by omega) I4
  have D1 := ob1_s (smS_w S5 (by omega) (by omega)) (by omega) D1
  have D2 := isP_s (smS_w S5 (by omega) (by omega)) (by omega) D2
  have D3 := isP_s (smS_w S5 (by omega) (by omega)) (by omega) D3
  have D4 := isP_s (smS_w S5 (by omega) (by omega)) (by omega) D4
  have D5 := wfA_s (smS_w T5 (by omega) (by omega)) (by omega) C5
  generalize upR s 0 5 (.ref 51) = σ5 at B5 S5 R5 I5 D1 D2 D3 D4 D5 g_4 ⊢
  have e_5 : σ5.1 = 197 := B5.1
  simp only [xX5_init_129, xX5_init_130, xX5_init_133, xX5_init_134, xX5_init_137, Bool.false_eq_true, if_true, if_false, kl_i, kl_a, kl_s, kl_u, kl_l, okS_nil, okS_cons, cat_i, cat_a, cat_s, cat_l, Nat.reduceAdd, Nat.reduceLeDiff, Nat.reduceSub, Nat.sub_zero, Nat.sub_self, Nat.zero_add, Nat.le_refl, Nat.zero_le, List.length_cons, List.length_nil, true_and, and_true, true_or, or_true, eq_self, forall_const, true_implies, not_true_eq_false, not_false_eq_true, false_implies, implies_true, false_and, and_false, false_or, or_false, e_5, zeM_z, zeL_z]
  refine ⟨by omega, by omega, by omega, by omega, ?_⟩
  refine c_X4 (p := 197) (by rw [N_1, e_5]) (isO_N 4 2 e_5) (fun s f_5 C6 S_5 => ?_)
  obtain ⟨O6, B6, S6⟩ := ob_n (n' := 199) (k := 7) B5 (by omega) (by omega) f_5 S_5 (by simp)
  refine ⟨O6, ?_⟩
  have T6 : smS s (upR s 0 7 (.ref 197)) 1 199 := smR _ _ _ _ (by omega)
  have g_5 : (upR s 0 7 (.ref 197)).1 = 199 := f_5
  have R6 := wfR_s (smS_w S6 (by omega) (by omega)) (by omega) R5
  have I6 := wfI_s (smS_w S6 (by omega) (by omega)) (by omega) I5
  have D1 := ob1_s (smS_w S6 (by omega) (by omega)) (by omega) D1
  have D2 := isP_s (smS_w S6 (by omega) (by omega)) (by omega) D2
  have D3 := isP_s (smS_w S6 (by omega) (by omega)) (by omega) D3
  have D4 := isP_s (smS_w S6 (by omega) (by omega)) (by omega) D4
  have D5 := wfA_s (smS_w S6 (by omega) (by omega)) (by omega) D5
  have D6 := ob1_s (smS_w T6 (by omega) (by omega)) (by omega) C6
  generalize upR s 0 7 (.ref 197) = σ6 at B6 S6 R6 I6 D1 D2 D3 D4 D5 D6 g_5 ⊢
  simp only [xX5_init_140, xX5_init_141, xX5_init_142, xX5_init_145, xX5_init_146, xX5_init_147, xX5_init_150, Bool.false_eq_true, if_true, if_false, kl_i, kl_a, kl_s, kl_u, kl_l, okS_nil, okS_cons, cat_i, cat_a, cat_s, cat_l, Nat.reduceAdd, Nat.reduceLeDiff, Nat.reduceSub, Nat.sub_zero, Nat.sub_self, Nat.zero_add, Nat.le_refl, Nat.zero_le, List.length_cons, List.length_nil, true_and, and_true, true_or, or_true, eq_self, forall_const, true_implies, not_true_eq_false, not_false_eq_true, false_implies, implies_true, false_and, and_false, false_or, or_false, B6.2.1, upM_z]
  have r := B6.2.2
  exact hQ σ6 g_5 ⟨B6.2.1, r (0, 1) (by simp), r (1, 31) (by simp), r (2, 33) (by simp), r (3, 39) (by simp), r (4, 45) (by simp), r (5, 51) (by simp), r (6, 18) (by simp), r (7, 197) (by simp), D2, D3, D4⟩ R6 D1 D5 D6 I6
theorem c_X5 {K : Cx} {d : Nat} {σ : Sg} {Q : Rt} (h1 : σ.1 = 1) (h2 : isO σ 0 5) (hQ : ∀ σ', σ'.1 = 199 → wfN σ' → wfR σ' → wfT σ' → wfA σ' → wfL σ' → wfI σ' → Q 0 σ' zM zL) : CT K (d + 3) YX5_init [.ref 0] σ zM zL Q := by
  refine kX5_init ?_
  have c8 : Int32.toNatClampNeg 8 = 8 := by decide
  have z8 : ((8 : Int32) < 0) = False := eq_false (by decide)
  have sN : smS σ (upN σ 112 8) 0 1 := smN σ 112 8 (by omega)
  have oN : isO (upN σ 112 8) 0 5 := isO_s h2 (by rw [N_1]; omega) (sN 0 (by omega) (by omega)).1
  have B0 : BB σ 1 [] := ⟨h1, h2, fun q hq => by simp at hq⟩
  have B1 : BB (upN σ 112 8) 2 [] := BB_s B0 sN (by rw [N_1, h1]) (by omega)
  have B2 : BB (upR (upN σ 112 8) 0 0 (.ref 1)) 2 [(0, 1)] := BB_p B1 (by simp)
  simp only [xX5_init_0, xX5_init_1, xX5_init_4, xX5_init_5, xX5_init_7, xX5_init_10, xX5_init_13, xX5_init_14, Bool.false_eq_true, if_true, if_false, kl_i, kl_a, kl_s, kl_u, kl_l, okS_nil, okS_cons, cat_i, cat_a, cat_s, cat_l, Nat.reduceAdd, Nat.reduceLeDiff, Nat.reduceSub, Nat.sub_zero, Nat.sub_self, Nat.zero_add, Nat.le_refl, Nat.zero_le, List.length_cons, List.length_nil, true_and, and_true, true_or, or_true, eq_self, forall_const, true_implies, not_true_eq_false, not_false_eq_true, false_implies, implies_true, false_and, and_false, false_or, or_false, c8, z8, h1, oN, zeM_z, zeL_z]
  refine l_X5r (B1 := 181) (B2 := 1789) (fun σ1 c1 c2 D1 R1 g1 g2 => ?_) 8 0 _ _ _ (by omega) B2 (isO_R (isO_N 112 8 h1)) (ln_R.trans (ln_N 112 8 h1)) (fun j hj => by omega) (by omega) (by omega)
  have c2' : Int32.toNatClampNeg 2 = 2 := by decide
  have z2 : ((2 : Int32) < 0) = False := eq_false (by decide)
  have e18 : σ1.1 = 18 := D1.1
  have q1 : 1 ≤ c1 := by omega
  have q2 : 2 ≤ c2 := by omega
  have sM : smS σ1 (upN σ1 111 2) 0 18 := smN σ1 111 2 (by omega)
  have D2 : BB (upN σ1 111 2) 19 [(0, 1)] := BB_s D1 (smS_w sM (by omega) (by omega)) (by rw [N_1, e18]) (by omega)
  have D3 : BB (upR (upN σ1 111 2) 0 6 (.ref 18)) 19 [(0, 1), (6, 18)] := BB_p D2 (by simp)
  have R3 : wfR (upR (upN σ1 111 2) 0 6 (.ref 18)) := wfR_s (smS_t (smS_w sM (by omega) (by omega)) (smR _ _ _ _ (by omega))) (by rw [R_1, N_1]; omega) R1
  simp only [xX5_init_40, xX5_init_41, xX5_init_42, xX5_init_45, xX5_init_48, xX5_init_49, Bool.false_eq_true, if_true, if_false, kl_i, kl_a, kl_s, kl_u, kl_l, okS_nil, okS_cons, cat_i, cat_a, cat_s, cat_l, Nat.reduceAdd, Nat.reduceLeDiff, Nat.reduceSub, Nat.sub_zero, Nat.sub_self, Nat.zero_add, Nat.le_refl, Nat.zero_le, List.length_cons, List.length_nil, true_and, and_true, true_or, or_true, eq_self, forall_const, true_implies, not_true_eq_false, not_false_eq_true, false_implies, implies_true, false_and, and_false, false_or, or_false, c2', z2, e18, D2.2.1, zeM_z, zeL_z, q1, q2]
  exact l_X5i (B1 := 168) (B2 := 1695) (fun σ2 d1 d2 E1 R2 I2 g3 g4 => k_X5 E1 R2 I2 g3 g4 hQ) 2 0 _ _ _ (by omega) D3 R3 (isO_R (isO_N 111 2 e18)) (ln_R.trans (ln_N 111 2 e18)) (fun j hj => by omega) (by omega) (by omega)
theorem wfN_s {σ σ' : Sg} (hs : smS σ σ' 0 199) (hc : 199 ≤ σ'.1) (h : wfN σ) : wfN σ' := by
  obtain ⟨h0, r0, r1, r2, r3, r4, r5, r6, r7, p1, p2, p3⟩ := h
  have e0 := hs 0 (by omega) (by omega)
  exact ⟨isO_s h0 (by omega) e0.1, (rf_s e0.2 _).trans r0, (rf_s e0.2 _).trans r1, (rf_s e0.2 _).trans r2, (rf_s e0.2 _).trans r3, (rf_s e0.2 _).trans r4, (rf_s e0.2 _).trans r5, (rf_s e0.2 _).trans r6, (rf_s e0.2 _).trans r7,
    isP_s (smS_w hs (by omega) (by omega)) (by omega) p1, isP_s (smS_w hs (by omega) (by omega)) (by omega) p2, isP_s (smS_w hs (by omega) (by omega)) (by omega) p3⟩
