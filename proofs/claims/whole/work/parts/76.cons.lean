/-! CONSTRUCTORS: cells made one after another -/
def zM : Mm := fun _ _ => 0
def zL : Ml := fun _ _ => 0
theorem zeM_z (a : Nat) : zeM zM a = zM := by
  funext b
  show (if b = a then (fun _ => 0) else zM b) = zM b
  split <;> rfl
theorem zeL_z (a : Nat) : zeL zL a = zL := by
  funext b
  show (if b = a then (fun _ => 0) else zL b) = zL b
  split <;> rfl
theorem upM_z (a k : Nat) : upM zM a k 0 = zM := by
  funext b
  by_cases h : b = a
  · subst h
    rw [upM_s]
    funext j
    unfold upd
    split <;> rfl
  · rw [upM_n _ _ _ h]
/-- the cells from lo up to hi are as they were -/
def smS (σ σ' : Sg) (lo hi : Nat) : Prop := ∀ b, lo ≤ b → b < hi → σ'.2.1 b = σ.2.1 b ∧ σ'.2.2 b = σ.2.2 b
theorem smS_t {a b c : Sg} {lo hi : Nat} (h1 : smS a b lo hi) (h2 : smS b c lo hi) : smS a c lo hi := fun x p q => ⟨(h2 x p q).1.trans (h1 x p q).1, (h2 x p q).2.trans (h1 x p q).2⟩
theorem smS_w {σ σ' : Sg} {lo hi lo' hi' : Nat} (h : smS σ σ' lo hi) (h1 : lo ≤ lo') (h2 : hi' ≤ hi) : smS σ σ' lo' hi' := fun x p q => h x (by omega) (by omega)
theorem smN (σ : Sg) (t n : Nat) {lo hi : Nat} (h : hi ≤ σ.1) : smS σ (upN σ t n) lo hi := fun b _ hb => by
  have hn : ¬ b = σ.1 := by omega
  exact ⟨if_neg hn, if_neg hn⟩
theorem smR (σ : Sg) (a k : Nat) (x : Value) {lo hi : Nat} (h : a < lo ∨ hi ≤ a) : smS σ (upR σ a k x) lo hi := fun b h1 hb => by
  have hn : ¬ b = a := by omega
  exact ⟨rfl, if_neg hn⟩
theorem N_1 (σ : Sg) (t n : Nat) : (upN σ t n).1 = σ.1 + 1 := rfl
theorem R_1 (σ : Sg) (a k : Nat) (x : Value) : (upR σ a k x).1 = σ.1 := rfl
theorem isO_s {σ σ' : Sg} {a t : Nat} (h : isO σ a t) (ha : a < σ'.1) (e : σ'.2.1 a = σ.2.1 a) : isO σ' a t := ⟨ha, by rw [e]; exact h.2⟩
theorem ln_s {σ σ' : Sg} {a : Nat} (e : σ'.2.1 a = σ.2.1 a) : ln σ' a = ln σ a := congrArg Prod.snd e
theorem rf_s {σ σ' : Sg} {a : Nat} (e : σ'.2.2 a = σ.2.2 a) (k : Nat) : rf σ' a k = rf σ a k := congrFun e k
theorem isO_N {σ : Sg} {p : Nat} (t n : Nat) (h : σ.1 = p) : isO (upN σ t n) p t := by
  subst h
  refine ⟨Nat.lt_succ_self _, ?_⟩
  show (if σ.1 = σ.1 then (t, n) else σ.2.1 σ.1).1 = t
  rw [if_pos rfl]
theorem ln_N {σ : Sg} {p : Nat} (t n : Nat) (h : σ.1 = p) : ln (upN σ t n) p = n := by
  subst h
  show (if σ.1 = σ.1 then (t, n) else σ.2.1 σ.1).2 = n
  rw [if_pos rfl]
theorem isO_R {σ : Sg} {a k b t : Nat} {x : Value} (h : isO σ b t) : isO (upR σ a k x) b t := h
theorem ln_R {σ : Sg} {a k b : Nat} {x : Value} : ln (upR σ a k x) b = ln σ b := rfl
theorem rf_R (σ : Sg) (a k : Nat) (x : Value) (j : Nat) : rf (upR σ a k x) a j = if j = k then x else rf σ a j := by
  show (if a = a then (fun j => if j = k then x else σ.2.2 a j) else σ.2.2 a) j = _
  rw [if_pos rfl]
  rfl
theorem rf_Rn (σ : Sg) (a k : Nat) (x : Value) {b : Nat} (h : b ≠ a) (j : Nat) : rf (upR σ a k x) b j = rf σ b j := rf_s (if_neg h) j
theorem isRw_s {σ σ' : Sg} {p : Nat} (hs : smS σ σ' p (p + 2)) (hc : p + 2 ≤ σ'.1) (h : isRw σ p) : isRw σ' p := by
  obtain ⟨h1, h2, h3, h4⟩ := h
  have e0 := hs p (by omega) (by omega)
  have e1 := hs (p + 1) (by omega) (by omega)
  exact ⟨isO_s h1 (by omega) e0.1, (rf_s e0.2 0).trans h2, isO_s h3 (by omega) e1.1, (ln_s e1.1).trans h4⟩
theorem isP_s {σ σ' : Sg} {p : Nat} (hs : smS σ σ' p (p + 6)) (hc : p + 6 ≤ σ'.1) (h : isP σ p) : isP σ' p := by
  obtain ⟨hO, r0, r1, r2, r3, r4, o1, o2, o3, o4, o5, l1, l2, l3, l4, l5⟩ := h
  have e0 := hs p (by omega) (by omega)
  have e1 := hs (p + 1) (by omega) (by omega)
  have e2 := hs (p + 2) (by omega) (by omega)
  have e3 := hs (p + 3) (by omega) (by omega)
  have e4 := hs (p + 4) (by omega) (by omega)
  have e5 := hs (p + 5) (by omega) (by omega)
  exact ⟨isO_s hO (by omega) e0.1, (rf_s e0.2 0).trans r0, (rf_s e0.2 1).trans r1, (rf_s e0.2 2).trans r2, (rf_s e0.2 3).trans r3, (rf_s e0.2 4).trans r4,
    isO_s o1 (by omega) e1.1, isO_s o2 (by omega) e2.1, isO_s o3 (by omega) e3.1, isO_s o4 (by omega) e4.1, isO_s o5 (by omega) e5.1, (ln_s e1.1).trans l1, (ln_s e2.1).trans l2, (ln_s e3.1).trans l3, (ln_s e4.1).trans l4, (ln_s e5.1).trans l5⟩
theorem wfR_s {σ σ' : Sg} (hs : smS σ σ' 1 18) (hc : 18 ≤ σ'.1) (h : wfR σ) : wfR σ' := by
  obtain ⟨h1, h2, h3⟩ := h
  have e1 := hs 1 (by omega) (by omega)
  exact ⟨isO_s h1 (by omega) e1.1, (ln_s e1.1).trans h2, fun r hr => ⟨(rf_s e1.2 r).trans (h3 r hr).1, isRw_s (smS_w hs (by omega) (by omega)) (by omega) (h3 r hr).2⟩⟩
theorem wfI_s {σ σ' : Sg} (hs : smS σ σ' 18 31) (hc : 31 ≤ σ'.1) (h : wfI σ) : wfI σ' := by
  obtain ⟨h1, h2, h3⟩ := h
  have e1 := hs 18 (by omega) (by omega)
  exact ⟨isO_s h1 (by omega) e1.1, (ln_s e1.1).trans h2, fun r hr => ⟨(rf_s e1.2 r).trans (h3 r hr).1, isP_s (smS_w hs (by omega) (by omega)) (by omega) (h3 r hr).2⟩⟩
theorem wfA_s {σ σ' : Sg} (hs : smS σ σ' 51 197) (hc : 197 ≤ σ'.1) (h : wfA σ) : wfA σ' := by
  obtain ⟨h1, h2, h3, h4, h5⟩ := h
  have e1 := hs 51 (by omega) (by omega)
  have e2 := hs 52 (by omega) (by omega)
  exact ⟨isO_s h1 (by omega) e1.1, (rf_s e1.2 0).trans h2, isO_s h3 (by omega) e2.1, (ln_s e2.1).trans h4, fun r hr => ⟨(rf_s e2.2 r).trans (h5 r hr).1, isP_s (smS_w hs (by omega) (by omega)) (by omega) (h5 r hr).2⟩⟩
/-- an object with one row -/
def ob1 (σ : Sg) (p c t n : Nat) : Prop := isO σ p c ∧ rf σ p 0 = .ref (p + 1) ∧ isO σ (p + 1) t ∧ ln σ (p + 1) = n
theorem ob1_s {σ σ' : Sg} {p c t n : Nat} (hs : smS σ σ' p (p + 2)) (hc : p + 2 ≤ σ'.1) (h : ob1 σ p c t n) : ob1 σ' p c t n := by
  obtain ⟨h1, h2, h3, h4⟩ := h
  have e0 := hs p (by omega) (by omega)
  have e1 := hs (p + 1) (by omega) (by omega)
  exact ⟨isO_s h1 (by omega) e0.1, (rf_s e0.2 0).trans h2, isO_s h3 (by omega) e1.1, (ln_s e1.1).trans h4⟩
/-- an object of class c at p, whose rows L (field, kind, length) were made one after another -/
def FF (σ : Sg) (c p : Nat) (L : List (Nat × Nat × Nat)) : Prop := σ.1 = p + 1 + L.length ∧ isO σ p c ∧ ∀ i q, L[i]? = some q → rf σ p q.1 = .ref (p + 1 + i) ∧ isO σ (p + 1 + i) q.2.1 ∧ ln σ (p + 1 + i) = q.2.2
theorem FF_0 {σ : Sg} {c p : Nat} (h1 : σ.1 = p + 1) (h2 : isO σ p c) : FF σ c p [] := ⟨h1, h2, fun i q hq => by simp at hq⟩
theorem FF_s {σ : Sg} {c p k t n : Nat} {L : List (Nat × Nat × Nat)} (h : FF σ c p L) (hk : ∀ q ∈ L, q.1 ≠ k) : FF (upR (upN σ t n) p k (.ref σ.1)) c p (L ++ [(k, t, n)]) ∧ isO (upN σ t n) p c ∧ smS σ (upR (upN σ t n) p k (.ref σ.1)) 0 p := by
  obtain ⟨h1, h2, h3⟩ := h
  have hp : p < σ.1 := h2.1
  have sN : smS σ (upN σ t n) 0 σ.1 := smN σ t n (Nat.le_refl _)
  have eP := sN p (by omega) hp
  have oP : isO (upN σ t n) p c := isO_s h2 (by rw [N_1]; omega) eP.1
  refine ⟨⟨?_, oP, fun i q hq => ?_⟩, oP, smS_t (smS_w sN (by omega) (by omega)) (smR _ _ _ _ (by omega))⟩
  · rw [R_1, N_1, List.length_append, List.length_singleton]
    omega
  · by_cases hi : i < L.length
    · rw [List.getElem?_append_left hi] at hq
      obtain ⟨g1, g2, g3⟩ := h3 i q hq
      have eB := sN (p + 1 + i) (by omega) g2.1
      refine ⟨?_, isO_s g2 (by have := g2.1; rw [R_1, N_1]; omega) eB.1, (ln_s eB.1).trans g3⟩
      rw [rf_R, if_neg (hk q (List.mem_of_getElem? hq))]
      exact (rf_s eP.2 _).trans g1
    · have hl := (List.getElem?_eq_some_iff.mp hq).1
      rw [List.length_append, List.length_singleton] at hl
      have hi2 : L.length ≤ i := Nat.le_of_not_lt hi
      have e : i = L.length := Nat.le_antisymm (Nat.le_of_lt_succ hl) hi2
      subst e
      rw [List.getElem?_append_right (Nat.le_refl _), Nat.sub_self] at hq
      have eq : (k, t, n) = q := Option.some.inj hq
      subst eq
      refine ⟨?_, isO_N t n h1, ln_N t n h1⟩
      rw [rf_R, if_pos rfl, h1]
theorem c_X1 {K : Cx} {d p : Nat} {σ : Sg} {Q : Rt} (h1 : σ.1 = p + 1) (h2 : isO σ p 1) (hQ : ∀ σ', σ'.1 = p + 6 → isP σ' p → smS σ σ' 0 p → Q 0 σ' zM zL) : CT K (d + 1) YX1_init [.ref p] σ zM zL Q := by
  refine kX1_init ?_
  have F0 := FF_0 h1 h2
  simp only [xX1_init_0, xX1_init_1, Bool.false_eq_true, if_true, if_false, kl_i, kl_a, kl_s, kl_u, kl_l, okS_nil, okS_cons, cat_i, cat_a, cat_s, cat_l, Nat.reduceAdd, Nat.reduceLeDiff, Nat.reduceSub, Nat.sub_zero, Nat.sub_self, Nat.zero_add, Nat.le_refl, Nat.zero_le, List.length_cons, List.length_nil, true_and, and_true, true_or, or_true, eq_self, forall_const, true_implies, not_true_eq_false, not_false_eq_true, false_implies, implies_true, false_and, and_false, false_or, or_false]
  have c_0 : Int32.toNatClampNeg 7 = 7 := by decide
  have z_0 : ((7 : Int32) < 0) = False := eq_false (by decide)
  obtain ⟨F1, O1, S1⟩ := FF_s (k := 0) (t := 100) (n := 7) F0 (by simp)
  simp only [xX1_init_4, xX1_init_5, xX1_init_7, xX1_init_9, Bool.false_eq_true, if_true, if_false, kl_i, kl_a, kl_s, kl_u, kl_l, okS_nil, okS_cons, cat_i, cat_a, cat_s, cat_l, Nat.reduceAdd, Nat.reduceLeDiff, Nat.reduceSub, Nat.sub_zero, Nat.sub_self, Nat.zero_add, Nat.le_refl, Nat.zero_le, List.length_cons, List.length_nil, true_and, and_true, true_or, or_true, eq_self, forall_const, true_implies, not_true_eq_false, not_false_eq_true, false_implies, implies_true, false_and, and_false, false_or, or_false, c_0, z_0, O1, zeM_z, zeL_z]
  generalize upR (upN σ 100 7) p 0 (.ref σ.1) = σ1 at F1 S1 ⊢
  have c_1 : Int32.toNatClampNeg 7 = 7 := by decide
  have z_1 : ((7 : Int32) < 0) = False := eq_false (by decide)
  obtain ⟨F2, O2, S2⟩ := FF_s (k := 1) (t := 100) (n := 7) F1 (by simp)
  simp only [xX1_init_12, xX1_init_13, xX1_init_15, xX1_init_17, Bool.false_eq_true, if_true, if_false, kl_i, kl_a, kl_s, kl_u, kl_l, okS_nil, okS_cons, cat_i, cat_a, cat_s, cat_l, Nat.reduceAdd, Nat.reduceLeDiff, Nat.reduceSub, Nat.sub_zero, Nat.sub_self, Nat.zero_add, Nat.le_refl, Nat.zero_le, List.length_cons, List.length_nil, true_and, and_true, true_or, or_true, eq_self, forall_const, true_implies, not_true_eq_false, not_false_eq_true, false_implies, implies_true, false_and, and_false, false_or, or_false, c_1, z_1, O2, zeM_z, zeL_z]
  generalize upR (upN σ1 100 7) p 1 (.ref σ1.1) = σ2 at F2 S2 ⊢
  have c_2 : Int32.toNatClampNeg 7 = 7 := by decide
  have z_2 : ((7 : Int32) < 0) = False := eq_false (by decide)
  obtain ⟨F3, O3, S3⟩ := FF_s (k := 2) (t := 100) (n := 7) F2 (by simp)
  simp only [xX1_init_20, xX1_init_21, xX1_init_23, xX1_init_25, Bool.false_eq_true, if_true, if_false, kl_i, kl_a, kl_s, kl_u, kl_l, okS_nil, okS_cons, cat_i, cat_a, cat_s, cat_l, Nat.reduceAdd, Nat.reduceLeDiff, Nat.reduceSub, Nat.sub_zero, Nat.sub_self, Nat.zero_add, Nat.le_refl, Nat.zero_le, List.length_cons, List.length_nil, true_and, and_true, true_or, or_true, eq_self, forall_const, true_implies, not_true_eq_false, not_false_eq_true, false_implies, implies_true, false_and, and_false, false_or, or_false, c_2, z_2, O3, zeM_z, zeL_z]
  generalize upR (upN σ2 100 7) p 2 (.ref σ2.1) = σ3 at F3 S3 ⊢
  have c_3 : Int32.toNatClampNeg 7 = 7 := by decide
  have z_3 : ((7 : Int32) < 0) = False := eq_false (by decide)
  obtain ⟨F4, O4, S4⟩ := FF_s (k := 3) (t := 100) (n := 7) F3 (by simp)
  simp only [xX1_init_28, xX1_init_29, xX1_init_31, xX1_init_33, Bool.false_eq_true, if_true, if_false, kl_i, kl_a, kl_s, kl_u, kl_l, okS_nil, okS_cons, cat_i, cat_a, cat_s, cat_l, Nat.reduceAdd, Nat.reduceLeDiff, Nat.reduceSub, Nat.sub_zero, Nat.sub_self, Nat.zero_add, Nat.le_refl, Nat.zero_le, List.length_cons, List.length_nil, true_and, and_true, true_or, or_true, eq_self, forall_const, true_implies, not_true_eq_false, not_false_eq_true, false_implies, implies_true, false_and, and_false, false_or, or_false, c_3, z_3, O4, zeM_z, zeL_z]
  generalize upR (upN σ3 100 7) p 3 (.ref σ3.1) = σ4 at F4 S4 ⊢
  have c_4 : Int32.toNatClampNeg 7 = 7 := by decide
  have z_4 : ((7 : Int32) < 0) = False := eq_false (by decide)
  obtain ⟨F5, O5, S5⟩ := FF_s (k := 4) (t := 100) (n := 7) F4 (by simp)
  simp only [xX1_init_36, xX1_init_37, xX1_init_39, xX1_init_41, Bool.false_eq_true, if_true, if_false, kl_i, kl_a, kl_s, kl_u, kl_l, okS_nil, okS_cons, cat_i, cat_a, cat_s, cat_l, Nat.reduceAdd, Nat.reduceLeDiff, Nat.reduceSub, Nat.sub_zero, Nat.sub_self, Nat.zero_add, Nat.le_refl, Nat.zero_le, List.length_cons, List.length_nil, true_and, and_true, true_or, or_true, eq_self, forall_const, true_implies, not_true_eq_false, not_false_eq_true, false_implies, implies_true, false_and, and_false, false_or, or_false, c_4, z_4, O5, zeM_z, zeL_z]
  generalize upR (upN σ4 100 7) p 4 (.ref σ4.1) = σ5 at F5 S5 ⊢
  simp only [xX1_init_44, Bool.false_eq_true, if_true, if_false, kl_i, kl_a, kl_s, kl_u, kl_l, okS_nil, okS_cons, cat_i, cat_a, cat_s, cat_l, Nat.reduceAdd, Nat.reduceLeDiff, Nat.reduceSub, Nat.sub_zero, Nat.sub_self, Nat.zero_add, Nat.le_refl, Nat.zero_le, List.length_cons, List.length_nil, true_and, and_true, true_or, or_true, eq_self, forall_const, true_implies, not_true_eq_false, not_false_eq_true, false_implies, implies_true, false_and, and_false, false_or, or_false]
  exact hQ σ5 F5.1 ⟨F5.2.1, (F5.2.2 0 _ rfl).1, (F5.2.2 1 _ rfl).1, (F5.2.2 2 _ rfl).1, (F5.2.2 3 _ rfl).1, (F5.2.2 4 _ rfl).1, (F5.2.2 0 _ rfl).2.1, (F5.2.2 1 _ rfl).2.1, (F5.2.2 2 _ rfl).2.1, (F5.2.2 3 _ rfl).2.1, (F5.2.2 4 _ rfl).2.1,
    (F5.2.2 0 _ rfl).2.2, (F5.2.2 1 _ rfl).2.2, (F5.2.2 2 _ rfl).2.2, (F5.2.2 3 _ rfl).2.2, (F5.2.2 4 _ rfl).2.2⟩ (smS_t (smS_t (smS_t (smS_t S1 S2) S3) S4) S5)
theorem c_X2 {K : Cx} {d p : Nat} {σ : Sg} {Q : Rt} (h1 : σ.1 = p + 1) (h2 : isO σ p 2) (hQ : ∀ σ', σ'.1 = p + 2 → ob1 σ' p 2 100 40 → smS σ σ' 0 p → Q 0 σ' zM zL) : CT K (d + 1) YX2_init [.ref p] σ zM zL Q := by
  refine kX2_init ?_
  have F0 := FF_0 h1 h2
  simp only [xX2_init_0, xX2_init_1, Bool.false_eq_true, if_true, if_false, kl_i, kl_a, kl_s, kl_u, kl_l, okS_nil, okS_cons, cat_i, cat_a, cat_s, cat_l, Nat.reduceAdd, Nat.reduceLeDiff, Nat.reduceSub, Nat.sub_zero, Nat.sub_self, Nat.zero_add, Nat.le_refl, Nat.zero_le, List.length_cons, List.length_nil, true_and, and_true, true_or, or_true, eq_self, forall_const, true_implies, not_true_eq_false, not_false_eq_true, false_implies, implies_true, false_and, and_false, false_or, or_false]
  have c_0 : Int32.toNatClampNeg 40 = 40 := by decide
  have z_0 : ((40 : Int32) < 0) = False := eq_false (by decide)
  obtain ⟨F1, O1, S1⟩ := FF_s (k := 0) (t := 100) (n := 40) F0 (by simp)
  simp only [xX2_init_4, xX2_init_5, xX2_init_7, xX2_init_9, Bool.false_eq_true, if_true, if_false, kl_i, kl_a, kl_s, kl_u, kl_l, okS_nil, okS_cons, cat_i, cat_a, cat_s, cat_l, Nat.reduceAdd, Nat.reduceLeDiff, Nat.reduceSub, Nat.sub_zero, Nat.sub_self, Nat.zero_add, Nat.le_refl, Nat.zero_le, List.length_cons, List.length_nil, true_and, and_true, true_or, or_true, eq_self, forall_const, true_implies, not_true_eq_false, not_false_eq_true, false_implies, implies_true, false_and, and_false, false_or, or_false, c_0, z_0, O1, zeM_z, zeL_z]
  generalize upR (upN σ 100 40) p 0 (.ref σ.1) = σ1 at F1 S1 ⊢
  simp only [xX2_init_12, Bool.false_eq_true, if_true, if_false, kl_i, kl_a, kl_s, kl_u, kl_l, okS_nil, okS_cons, cat_i, cat_a, cat_s, cat_l, Nat.reduceAdd, Nat.reduceLeDiff, Nat.reduceSub, Nat.sub_zero, Nat.sub_self, Nat.zero_add, Nat.le_refl, Nat.zero_le, List.length_cons, List.length_nil, true_and, and_true, true_or, or_true, eq_self, forall_const, true_implies, not_true_eq_false, not_false_eq_true, false_implies, implies_true, false_and, and_false, false_or, or_false]
  exact hQ σ1 F1.1 ⟨F1.2.1, (F1.2.2 0 _ rfl).1, (F1.2.2 0 _ rfl).2.1, (F1.2.2 0 _ rfl).2.2⟩ S1
theorem c_X3 {K : Cx} {d p : Nat} {σ : Sg} {Q : Rt} (h1 : σ.1 = p + 1) (h2 : isO σ p 3) (hQ : ∀ σ', σ'.1 = p + 2 → ob1 σ' p 3 101 400 → smS σ σ' 0 p → Q 0 σ' zM zL) : CT K (d + 1) YX3_init [.ref p] σ zM zL Q := by
  refine kX3_init ?_
  have F0 := FF_0 h1 h2
  simp only [xX3_init_0, xX3_init_1, Bool.false_eq_true, if_true, if_false, kl_i, kl_a, kl_s, kl_u, kl_l, okS_nil, okS_cons, cat_i, cat_a, cat_s, cat_l, Nat.reduceAdd, Nat.reduceLeDiff, Nat.reduceSub, Nat.sub_zero, Nat.sub_self, Nat.zero_add, Nat.le_refl, Nat.zero_le, List.length_cons, List.length_nil, true_and, and_true, true_or, or_true, eq_self, forall_const, true_implies, not_true_eq_false, not_false_eq_true, false_implies, implies_true, false_and, and_false, false_or, or_false]
  have c_0 : Int32.toNatClampNeg 400 = 400 := by decide
  have z_0 : ((400 : Int32) < 0) = False := eq_false (by decide)
  obtain ⟨F1, O1, S1⟩ := FF_s (k := 0) (t := 101) (n := 400) F0 (by simp)
  simp only [xX3_init_4, xX3_init_5, xX3_init_8, xX3_init_10, Bool.false_eq_true, if_true, if_false, kl_i, kl_a, kl_s, kl_u, kl_l, okS_nil, okS_cons, cat_i, cat_a, cat_s, cat_l, Nat.reduceAdd, Nat.reduceLeDiff, Nat.reduceSub, Nat.sub_zero, Nat.sub_self, Nat.zero_add, Nat.le_refl, Nat.zero_le, List.length_cons, List.length_nil, true_and, and_true, true_or, or_true, eq_self, forall_const, true_implies, not_true_eq_false, not_false_eq_true, false_implies, implies_true, false_and, and_false, false_or, or_false, c_0, z_0, O1, zeM_z, zeL_z]
  generalize upR (upN σ 101 400) p 0 (.ref σ.1) = σ1 at F1 S1 ⊢
  simp only [xX3_init_13, Bool.false_eq_true, if_true, if_false, kl_i, kl_a, kl_s, kl_u, kl_l, okS_nil, okS_cons, cat_i, cat_a, cat_s, cat_l, Nat.reduceAdd, Nat.reduceLeDiff, Nat.reduceSub, Nat.sub_zero, Nat.sub_self, Nat.zero_add, Nat.le_refl, Nat.zero_le, List.length_cons, List.length_nil, true_and, and_true, true_or, or_true, eq_self, forall_const, true_implies, not_true_eq_false, not_false_eq_true, false_implies, implies_true, false_and, and_false, false_or, or_false]
  exact hQ σ1 F1.1 ⟨F1.2.1, (F1.2.2 0 _ rfl).1, (F1.2.2 0 _ rfl).2.1, (F1.2.2 0 _ rfl).2.2⟩ S1
theorem c_X4 {K : Cx} {d p : Nat} {σ : Sg} {Q : Rt} (h1 : σ.1 = p + 1) (h2 : isO σ p 4) (hQ : ∀ σ', σ'.1 = p + 2 → ob1 σ' p 4 100 16 → smS σ σ' 0 p → Q 0 σ' zM zL) : CT K (d + 1) YX4_init [.ref p] σ zM zL Q := by
  refine kX4_init ?_
  have F0 := FF_0 h1 h2
  simp only [xX4_init_0, xX4_init_1, Bool.false_eq_true, if_true, if_false, kl_i, kl_a, kl_s, kl_u, kl_l, okS_nil, okS_cons, cat_i, cat_a, cat_s, cat_l, Nat.reduceAdd, Nat.reduceLeDiff, Nat.reduceSub, Nat.sub_zero, Nat.sub_self, Nat.zero_add, Nat.le_refl, Nat.zero_le, List.length_cons, List.length_nil, true_and, and_true, true_or, or_true, eq_self, forall_const, true_implies, not_true_eq_false, not_false_eq_true, false_implies, implies_true, false_and, and_false, false_or, or_false]
  have c_0 : Int32.toNatClampNeg 16 = 16 := by decide
  have z_0 : ((16 : Int32) < 0) = False := eq_false (by decide)
  obtain ⟨F1, O1, S1⟩ := FF_s (k := 0) (t := 100) (n := 16) F0 (by simp)
  simp only [xX4_init_4, xX4_init_5, xX4_init_7, xX4_init_9, Bool.false_eq_true, if_true, if_false, kl_i, kl_a, kl_s, kl_u, kl_l, okS_nil, okS_cons, cat_i, cat_a, cat_s, cat_l, Nat.reduceAdd, Nat.reduceLeDiff, Nat.reduceSub, Nat.sub_zero, Nat.sub_self, Nat.zero_add, Nat.le_refl, Nat.zero_le, List.length_cons, List.length_nil, true_and, and_true, true_or, or_true, eq_self, forall_const, true_implies, not_true_eq_false, not_false_eq_true, false_implies, implies_true, false_and, and_false, false_or, or_false, c_0, z_0, O1, zeM_z, zeL_z]
  generalize upR (upN σ 100 16) p 0 (.ref σ.1) = σ1 at F1 S1 ⊢
  simp only [xX4_init_12, Bool.false_eq_true, if_true, if_false, kl_i, kl_a, kl_s, kl_u, kl_l, okS_nil, okS_cons, cat_i, cat_a, cat_s, cat_l, Nat.reduceAdd, Nat.reduceLeDiff, Nat.reduceSub, Nat.sub_zero, Nat.sub_self, Nat.zero_add, Nat.le_refl, Nat.zero_le, List.length_cons, List.length_nil, true_and, and_true, true_or, or_true, eq_self, forall_const, true_implies, not_true_eq_false, not_false_eq_true, false_implies, implies_true, false_and, and_false, false_or, or_false]
  exact hQ σ1 F1.1 ⟨F1.2.1, (F1.2.2 0 _ rfl).1, (F1.2.2 0 _ rfl).2.1, (F1.2.2 0 _ rfl).2.2⟩ S1
