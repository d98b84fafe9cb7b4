/-! the model: a day; copies; what is tried -/
def rnM (q : Nat → Int32) (rain : Int32) (v : Nat) : Nat → Int32 := upd q (26 + v) (mnL (q (26 + v) + q (12 + v) + rain) (q 1))
def rnL (rain : Int32) : Nat → Nat → (Nat → Int32) → Nat → Int32
  | _, 0, q => q
  | v, k + 1, q => rnL rain (v + 1) k (rnM q rain v)
def hdM (q : Nat → Int32) (v : Nat) : Int32 := mnL (q (26 + v)) (q (19 + v))
def ldM (q : Nat → Int32) (v : Nat) : Nat → Int32 := upd (upd q (26 + v) (q (26 + v) - hdM q v)) (33 + v) (q (33 + v) + (q (19 + v) - hdM q v))
def lsM (q : Nat → Int32) (v : Nat) (s : Int32) : Int32 := s ||| (if hdM q v < q (19 + v) then 1 <<< (nI v &&& 31) else 0)
def ldL : Nat → Nat → (Nat → Int32) → Int32 → (Nat → Int32) × Int32
  | _, 0, q, s => (q, s)
  | v, k + 1, q, s => ldL (v + 1) k (ldM q v) (lsM q v s)
def dwL (N : Nat) : Nat → Nat → (Nat → Int32) → Nat → Int32
  | _, 0, q => q
  | v, k + 1, q => dwL N (v + 1) k (dwM q v (nxM N v))
def goQ (N : Nat) (q : Nat → Int32) (rain : Int32) : Nat → Int32 :=
  upd (dwL N 0 N (ldL 0 N (rnL rain 0 N q) 0).1) 3 (dwL N 0 N (ldL 0 N (rnL rain 0 N q) 0).1 3 + 1)
def goS (N : Nat) (q : Nat → Int32) (rain : Int32) : Int32 := (ldL 0 N (rnL rain 0 N q) 0).2
theorem rnL_2 {rain : Int32} {j : Nat} (hj : j < 26) : ∀ (k v : Nat) (q : Nat → Int32), rnL rain v k q j = q j := by
  intro k
  induction k with
  | zero => intro v q; rfl
  | succ k ih => intro v q; rw [rnL, ih]; exact upd_n _ _ (by omega)
theorem ldL_2 {j : Nat} (hj : j < 26) : ∀ (k v : Nat) (q : Nat → Int32) (s : Int32), (ldL v k q s).1 j = q j := by
  intro k
  induction k with
  | zero => intro v q s; rfl
  | succ k ih => intro v q s; rw [ldL, ih]; rw [ldM, upd_n _ _ (by omega), upd_n _ _ (by omega)]
theorem dwM_2 {j v nx : Nat} (hj : j < 26 ∨ 33 ≤ j) (hv : v < 7) (hx : nx < 7) (q : Nat → Int32) : dwM q v nx j = q j := by
  unfold dwM
  split
  · rfl
  · rw [upd_n _ _ (by omega), upd_n _ _ (by omega)]
theorem dwL_2 {N j : Nat} (hj : j < 26 ∨ 33 ≤ j) (h7 : N ≤ 7) : ∀ (k v : Nat) (q : Nat → Int32), v + k = N → dwL N v k q j = q j := by
  intro k
  induction k with
  | zero => intro v q hv; rfl
  | succ k ih =>
    intro v q hv
    have hn : nxM N v < 7 := by unfold nxM; split <;> omega
    rw [dwL, ih (v + 1) _ (by omega), dwM_2 hj (by omega) hn]
theorem goQ_2 (N : Nat) (h7 : N ≤ 7) (q : Nat → Int32) (r : Int32) : goQ N q r 2 = q 2 := by
  unfold goQ
  rw [upd_n _ _ (by omega), dwL_2 (by omega) h7 N 0 _ (by omega), ldL_2 (by omega), rnL_2 (by omega)]
theorem l_go1 {K : Cx} {d : Nat} {σ : Sg} {m : Mm} {l : Ml} {a N : Nat} {rain : Int32} {Q : Rt} {s : Int32} (ha : isA σ a) (h7 : N ≤ 7) : ∀ (k v : Nat) (q : Nat → Int32) (e4 : Value), q 2 = nI N → v + k = N → (∀ e3 e4, WX (tX6_goes K (d + 2)) Q (56, [.ref a, .int rain, .int s, e3, e4], [], (0, 0), σ, setR m a (rnL rain v k q), l)) → WX (tX6_goes K (d + 2)) Q (4, [.ref a, .int rain, .int s, .int (nI v), e4], [], (0, 0), σ, setR m a q, l) := by
  obtain ⟨h1, h2⟩ := ha
  intro k
  induction k with
  | zero =>
    intro v q e4 hN hv hQ
    have c1 : (nI v < nI N) = False := by rw [ltN (by omega) (by omega)]; exact eq_false (by omega)
    rw [xX6_goes_4]
    simp only [xX6_goes_0, xX6_goes_1, xX6_goes_2, xX6_goes_3, xX6_goes_5, xX6_goes_6, xX6_goes_7, xX6_goes_8, xX6_goes_11, xX6_goes_12, xX6_goes_14, xX6_goes_15, xX6_goes_16, xX6_goes_17, xX6_goes_18, xX6_goes_20, xX6_goes_21, xX6_goes_22, xX6_goes_23, xX6_goes_24, xX6_goes_25, xX6_goes_26, xX6_goes_28, xX6_goes_29, xX6_goes_31, xX6_goes_32, xX6_goes_33, xX6_goes_35, xX6_goes_36, xX6_goes_37, xX6_goes_38, xX6_goes_41, xX6_goes_43, xX6_goes_46, xX6_goes_47, xX6_goes_48, xX6_goes_49, xX6_goes_50, xX6_goes_53, xX6_goes_57, xX6_goes_58, xX6_goes_59, xX6_goes_60, xX6_goes_61, xX6_goes_62, xX6_goes_65, xX6_goes_66, xX6_goes_68, xX6_goes_69, xX6_goes_70, xX6_goes_71, xX6_goes_72, xX6_goes_74, xX6_goes_75, xX6_goes_76, xX6_goes_77, xX6_goes_80, xX6_goes_81, xX6_goes_83, xX6_goes_84, xX6_goes_85, xX6_goes_86, xX6_goes_89, xX6_goes_90, xX6_goes_92, xX6_goes_93, xX6_goes_94, xX6_goes_95, xX6_goes_97, xX6_goes_98, xX6_goes_100, xX6_goes_101, xX6_goes_102, xX6_goes_103, xX6_goes_104, xX6_goes_106, xX6_goes_107, xX6_goes_108, xX6_goes_109, xX6_goes_111, xX6_goes_112, xX6_goes_113, xX6_goes_114, xX6_goes_115, xX6_goes_116, xX6_goes_118, xX6_goes_119, xX6_goes_120, xX6_goes_121, xX6_goes_123, xX6_goes_124, xX6_goes_125, xX6_goes_126, xX6_goes_127, xX6_goes_129, xX6_goes_130, xX6_goes_132, xX6_goes_133, xX6_goes_134, xX6_goes_135, xX6_goes_138, xX6_goes_139, xX6_goes_140, xX6_goes_141, xX6_goes_144, xX6_goes_145, xX6_goes_146, xX6_goes_147, xX6_goes_150, xX6_goes_153, xX6_goes_154, xX6_goes_155, xX6_goes_156, xX6_goes_157, xX6_goes_158, xX6_goes_159, xX6_goes_162, xX6_goes_163, xX6_goes_164, xX6_goes_167, xX6_goes_170, xX6_goes_173, xX6_goes_174, xX6_goes_175, xX6_goes_176, xX6_goes_177, xX6_goes_178, xX6_goes_179, xX6_goes_180, xX6_goes_181, Bool.false_eq_true, if_true, if_false, kl_i, kl_a, kl_s, kl_u, kl_l, okS_nil, okS_cons, cat_i, cat_a, cat_s, cat_l, Nat.reduceAdd, Nat.reduceLeDiff, Nat.reduceSub, Nat.sub_zero, Nat.sub_self, Nat.zero_add, Nat.le_refl, Nat.zero_le, List.length_cons, List.length_nil, true_and, and_true, true_or, or_true, eq_self, forall_const, true_implies, not_true_eq_false, not_false_eq_true, false_implies, implies_true, false_and, and_false, false_or, or_false, h1, h2, k5, k12, k19, k26, k33, cl0, cl1, cl2, cl3, cl4, vi0, vi1, vi2, vi3, vi4, setR_s, hN, c1]
    exact hQ _ _
  | succ k ih =>
    intro v q e4 hN hv hQ
    have c1 : (nI v < nI N) = True := by rw [ltN (by omega) (by omega)]; exact eq_true (by omega)
    have c26 := clN (v := 26 + v) (by omega)
    have n26 := inN (v := 26 + v) (n := 40) (by omega) (by omega)
    have c12 := clN (v := 12 + v) (by omega)
    have n12 := inN (v := 12 + v) (n := 40) (by omega) (by omega)
    rw [xX6_goes_4]
    simp only [xX6_goes_0, xX6_goes_1, xX6_goes_2, xX6_goes_3, xX6_goes_5, xX6_goes_6, xX6_goes_7, xX6_goes_8, xX6_goes_11, xX6_goes_12, xX6_goes_14, xX6_goes_15, xX6_goes_16, xX6_goes_17, xX6_goes_18, xX6_goes_20, xX6_goes_21, xX6_goes_22, xX6_goes_23, xX6_goes_24, xX6_goes_25, xX6_goes_26, xX6_goes_28, xX6_goes_29, xX6_goes_31, xX6_goes_32, xX6_goes_33, xX6_goes_35, xX6_goes_36, xX6_goes_37, xX6_goes_38, xX6_goes_41, xX6_goes_43, xX6_goes_46, xX6_goes_47, xX6_goes_48, xX6_goes_49, xX6_goes_50, xX6_goes_53, xX6_goes_57, xX6_goes_58, xX6_goes_59, xX6_goes_60, xX6_goes_61, xX6_goes_62, xX6_goes_65, xX6_goes_66, xX6_goes_68, xX6_goes_69, xX6_goes_70, xX6_goes_71, xX6_goes_72, xX6_goes_74, xX6_goes_75, xX6_goes_76, xX6_goes_77, xX6_goes_80, xX6_goes_81, xX6_goes_83, xX6_goes_84, xX6_goes_85, xX6_goes_86, xX6_goes_89, xX6_goes_90, xX6_goes_92, xX6_goes_93, xX6_goes_94, xX6_goes_95, xX6_goes_97, xX6_goes_98, xX6_goes_100, xX6_goes_101, xX6_goes_102, xX6_goes_103, xX6_goes_104, xX6_goes_106, xX6_goes_107, xX6_goes_108, xX6_goes_109, xX6_goes_111, xX6_goes_112, xX6_goes_113, xX6_goes_114, xX6_goes_115, xX6_goes_116, xX6_goes_118, xX6_goes_119, xX6_goes_120, xX6_goes_121, xX6_goes_123, xX6_goes_124, xX6_goes_125, xX6_goes_126, xX6_goes_127, xX6_goes_129, xX6_goes_130, xX6_goes_132, xX6_goes_133, xX6_goes_134, xX6_goes_135, xX6_goes_138, xX6_goes_139, xX6_goes_140, xX6_goes_141, xX6_goes_144, xX6_goes_145, xX6_goes_146, xX6_goes_147, xX6_goes_150, xX6_goes_153, xX6_goes_154, xX6_goes_155, xX6_goes_156, xX6_goes_157, xX6_goes_158, xX6_goes_159, xX6_goes_162, xX6_goes_163, xX6_goes_164, xX6_goes_167, xX6_goes_170, xX6_goes_173, xX6_goes_174, xX6_goes_175, xX6_goes_176, xX6_goes_177, xX6_goes_178, xX6_goes_179, xX6_goes_180, xX6_goes_181, Bool.false_eq_true, if_true, if_false, kl_i, kl_a, kl_s, kl_u, kl_l, okS_nil, okS_cons, cat_i, cat_a, cat_s, cat_l, Nat.reduceAdd, Nat.reduceLeDiff, Nat.reduceSub, Nat.sub_zero, Nat.sub_self, Nat.zero_add, Nat.le_refl, Nat.zero_le, List.length_cons, List.length_nil, true_and, and_true, true_or, or_true, eq_self, forall_const, true_implies, not_true_eq_false, not_false_eq_true, false_implies, implies_true, false_and, and_false, false_or, or_false, h1, h2, k5, k12, k19, k26, k33, cl0, cl1, cl2, cl3, cl4, vi0, vi1, vi2, vi3, vi4, setR_s, hN, c1, c26, n26, c12, n12, upM_setR, setR_setR, nI1]
    have key := fun e => ih (v + 1) (rnM q rain v) e (by rw [rnM, upd_n _ _ (by omega)]; exact hN) (by omega) hQ
    unfold rnM mnL at key
    by_cases h : q (26 + v) + q (12 + v) + rain < q 1 <;> simp only [h, Bool.false_eq_true, if_true, if_false, kl_i, kl_a, kl_s, kl_u, kl_l, okS_nil, okS_cons, cat_i, cat_a, cat_s, cat_l, Nat.reduceAdd, Nat.reduceLeDiff, Nat.reduceSub, Nat.sub_zero, Nat.sub_self, Nat.zero_add, Nat.le_refl, Nat.zero_le, List.length_cons, List.length_nil, true_and, and_true, true_or, or_true, eq_self, forall_const, true_implies, not_true_eq_false, not_false_eq_true, false_implies, implies_true, false_and, and_false, false_or, or_false] at key ⊢ <;> exact key _
theorem l_go2 {K : Cx} {d : Nat} {σ : Sg} {m : Mm} {l : Ml} {a N : Nat} {rain : Int32} {Q : Rt} (ha : isA σ a) (h7 : N ≤ 7) : ∀ (k v : Nat) (q : Nat → Int32) (s : Int32) (e4 : Value), q 2 = nI N → v + k = N → (∀ e3 e4, WX (tX6_goes K (d + 2)) Q (153, [.ref a, .int rain, .int (ldL v k q s).2, e3, e4], [], (0, 0), σ, setR m a (ldL v k q s).1, l)) → WX (tX6_goes K (d + 2)) Q (58, [.ref a, .int rain, .int s, .int (nI v), e4], [], (0, 0), σ, setR m a q, l) := by
  obtain ⟨h1, h2⟩ := ha
  intro k
  induction k with
  | zero =>
    intro v q s e4 hN hv hQ
    have c1 : (nI v < nI N) = False := by rw [ltN (by omega) (by omega)]; exact eq_false (by omega)
    rw [xX6_goes_58]
    simp only [xX6_goes_0, xX6_goes_1, xX6_goes_2, xX6_goes_3, xX6_goes_4, xX6_goes_5, xX6_goes_6, xX6_goes_7, xX6_goes_8, xX6_goes_11, xX6_goes_12, xX6_goes_14, xX6_goes_15, xX6_goes_16, xX6_goes_17, xX6_goes_18, xX6_goes_20, xX6_goes_21, xX6_goes_22, xX6_goes_23, xX6_goes_24, xX6_goes_25, xX6_goes_26, xX6_goes_28, xX6_goes_29, xX6_goes_31, xX6_goes_32, xX6_goes_33, xX6_goes_35, xX6_goes_36, xX6_goes_37, xX6_goes_38, xX6_goes_41, xX6_goes_43, xX6_goes_46, xX6_goes_47, xX6_goes_48, xX6_goes_49, xX6_goes_50, xX6_goes_53, xX6_goes_56, xX6_goes_57, xX6_goes_59, xX6_goes_60, xX6_goes_61, xX6_goes_62, xX6_goes_65, xX6_goes_66, xX6_goes_68, xX6_goes_69, xX6_goes_70, xX6_goes_71, xX6_goes_72, xX6_goes_74, xX6_goes_75, xX6_goes_76, xX6_goes_77, xX6_goes_80, xX6_goes_81, xX6_goes_83, xX6_goes_84, xX6_goes_85, xX6_goes_86, xX6_goes_89, xX6_goes_90, xX6_goes_92, xX6_goes_93, xX6_goes_94, xX6_goes_95, xX6_goes_97, xX6_goes_98, xX6_goes_100, xX6_goes_101, xX6_goes_102, xX6_goes_103, xX6_goes_104, xX6_goes_106, xX6_goes_107, xX6_goes_108, xX6_goes_109, xX6_goes_111, xX6_goes_112, xX6_goes_113, xX6_goes_114, xX6_goes_115, xX6_goes_116, xX6_goes_118, xX6_goes_119, xX6_goes_120, xX6_goes_121, xX6_goes_123, xX6_goes_124, xX6_goes_125, xX6_goes_126, xX6_goes_127, xX6_goes_129, xX6_goes_130, xX6_goes_132, xX6_goes_133, xX6_goes_134, xX6_goes_135, xX6_goes_138, xX6_goes_139, xX6_goes_140, xX6_goes_141, xX6_goes_144, xX6_goes_145, xX6_goes_146, xX6_goes_147, xX6_goes_150, xX6_goes_154, xX6_goes_155, xX6_goes_156, xX6_goes_157, xX6_goes_158, xX6_goes_159, xX6_goes_162, xX6_goes_163, xX6_goes_164, xX6_goes_167, xX6_goes_170, xX6_goes_173, xX6_goes_174, xX6_goes_175, xX6_goes_176, xX6_goes_177, xX6_goes_178, xX6_goes_179, xX6_goes_180, xX6_goes_181, Bool.false_eq_true, if_true, if_false, kl_i, kl_a, kl_s, kl_u, kl_l, okS_nil, okS_cons, cat_i, cat_a, cat_s, cat_l, Nat.reduceAdd, Nat.reduceLeDiff, Nat.reduceSub, Nat.sub_zero, Nat.sub_self, Nat.zero_add, Nat.le_refl, Nat.zero_le, List.length_cons, List.length_nil, true_and, and_true, true_or, or_true, eq_self, forall_const, true_implies, not_true_eq_false, not_false_eq_true, false_implies, implies_true, false_and, and_false, false_or, or_false, h1, h2, k5, k12, k19, k26, k33, cl0, cl1, cl2, cl3, cl4, vi0, vi1, vi2, vi3, vi4, setR_s, hN, c1]
    exact hQ _ _
  | succ k ih =>
    intro v q s e4 hN hv hQ
    have c1 : (nI v < nI N) = True := by rw [ltN (by omega) (by omega)]; exact eq_true (by omega)
    have c26 := clN (v := 26 + v) (by omega)
    have n26 := inN (v := 26 + v) (n := 40) (by omega) (by omega)
    have c19 := clN (v := 19 + v) (by omega)
    have n19 := inN (v := 19 + v) (n := 40) (by omega) (by omega)
    have c33 := clN (v := 33 + v) (by omega)
    have n33 := inN (v := 33 + v) (n := 40) (by omega) (by omega)
    have w1 : ∀ x, upd q (26 + v) x (19 + v) = q (19 + v) := fun x => upd_n _ _ (by omega)
    have w2 : ∀ x, upd q (26 + v) x (33 + v) = q (33 + v) := fun x => upd_n _ _ (by omega)
    have w3 : ∀ x y, upd (upd q (26 + v) x) (33 + v) y (19 + v) = q (19 + v) := fun x y => (upd_n _ _ (by omega)).trans (w1 x)
    rw [xX6_goes_58]
    simp only [xX6_goes_0, xX6_goes_1, xX6_goes_2, xX6_goes_3, xX6_goes_4, xX6_goes_5, xX6_goes_6, xX6_goes_7, xX6_goes_8, xX6_goes_11, xX6_goes_12, xX6_goes_14, xX6_goes_15, xX6_goes_16, xX6_goes_17, xX6_goes_18, xX6_goes_20, xX6_goes_21, xX6_goes_22, xX6_goes_23, xX6_goes_24, xX6_goes_25, xX6_goes_26, xX6_goes_28, xX6_goes_29, xX6_goes_31, xX6_goes_32, xX6_goes_33, xX6_goes_35, xX6_goes_36, xX6_goes_37, xX6_goes_38, xX6_goes_41, xX6_goes_43, xX6_goes_46, xX6_goes_47, xX6_goes_48, xX6_goes_49, xX6_goes_50, xX6_goes_53, xX6_goes_56, xX6_goes_57, xX6_goes_59, xX6_goes_60, xX6_goes_61, xX6_goes_62, xX6_goes_65, xX6_goes_66, xX6_goes_68, xX6_goes_69, xX6_goes_70, xX6_goes_71, xX6_goes_72, xX6_goes_74, xX6_goes_75, xX6_goes_76, xX6_goes_77, xX6_goes_80, xX6_goes_81, xX6_goes_83, xX6_goes_84, xX6_goes_85, xX6_goes_86, xX6_goes_89, xX6_goes_90, xX6_goes_92, xX6_goes_93, xX6_goes_94, xX6_goes_95, xX6_goes_97, xX6_goes_98, xX6_goes_100, xX6_goes_101, xX6_goes_102, xX6_goes_103, xX6_goes_104, xX6_goes_106, xX6_goes_107, xX6_goes_108, xX6_goes_109, xX6_goes_111, xX6_goes_112, xX6_goes_113, xX6_goes_114, xX6_goes_115, xX6_goes_116, xX6_goes_118, xX6_goes_119, xX6_goes_120, xX6_goes_121, xX6_goes_123, xX6_goes_124, xX6_goes_125, xX6_goes_126, xX6_goes_127, xX6_goes_129, xX6_goes_130, xX6_goes_132, xX6_goes_133, xX6_goes_134, xX6_goes_135, xX6_goes_138, xX6_goes_139, xX6_goes_140, xX6_goes_141, xX6_goes_144, xX6_goes_145, xX6_goes_146, xX6_goes_147, xX6_goes_150, xX6_goes_154, xX6_goes_155, xX6_goes_156, xX6_goes_157, xX6_goes_158, xX6_goes_159, xX6_goes_162, xX6_goes_163, xX6_goes_164, xX6_goes_167, xX6_goes_170, xX6_goes_173, xX6_goes_174, xX6_goes_175, xX6_goes_176, xX6_goes_177, xX6_goes_178, xX6_goes_179, xX6_goes_180, xX6_goes_181, Bool.false_eq_true, if_true, if_false, kl_i, kl_a, kl_s, kl_u, kl_l, okS_nil, okS_cons, cat_i, cat_a, cat_s, cat_l, Nat.reduceAdd, Nat.reduceLeDiff, Nat.reduceSub, Nat.sub_zero, Nat.sub_self, Nat.zero_add, Nat.le_refl, Nat.zero_le, List.length_cons, List.length_nil, true_and, and_true, true_or, or_true, eq_self, forall_const, true_implies, not_true_eq_false, not_false_eq_true, false_implies, implies_true, false_and, and_false, false_or, or_false, h1, h2, k5, k12, k19, k26, k33, cl0, cl1, cl2, cl3, cl4, vi0, vi1, vi2, vi3, vi4, setR_s, hN, c1, c26, n26, c19, n19, c33, n33, upM_setR, setR_setR, w1, w2, w3, nI1]
    have key := fun e => ih (v + 1) (ldM q v) (lsM q v s) e (by rw [ldM, upd_n _ _ (by omega), upd_n _ _ (by omega)]; exact hN) (by omega) hQ
    unfold ldM lsM at key
    by_cases h : q (26 + v) < q (19 + v)
    · have e1 : hdM q v = q (26 + v) := if_pos h
      simp only [e1, h, Bool.false_eq_true, if_true, if_false, kl_i, kl_a, kl_s, kl_u, kl_l, okS_nil, okS_cons, cat_i, cat_a, cat_s, cat_l, Nat.reduceAdd, Nat.reduceLeDiff, Nat.reduceSub, Nat.sub_zero, Nat.sub_self, Nat.zero_add, Nat.le_refl, Nat.zero_le, List.length_cons, List.length_nil, true_and, and_true, true_or, or_true, eq_self, forall_const, true_implies, not_true_eq_false, not_false_eq_true, false_implies, implies_true, false_and, and_false, false_or, or_false] at key ⊢
      exact key _
    · have e1 : hdM q v = q (19 + v) := if_neg h
      have e2 : ¬ q (19 + v) < q (19 + v) := Int32.lt_irrefl
      simp only [e1, h, e2, Bool.false_eq_true, if_true, if_false, kl_i, kl_a, kl_s, kl_u, kl_l, okS_nil, okS_cons, cat_i, cat_a, cat_s, cat_l, Nat.reduceAdd, Nat.reduceLeDiff, Nat.reduceSub, Nat.sub_zero, Nat.sub_self, Nat.zero_add, Nat.le_refl, Nat.zero_le, List.length_cons, List.length_nil, true_and, and_true, true_or, or_true, eq_self, forall_const, true_implies, not_true_eq_false, not_false_eq_true, false_implies, implies_true, false_and, and_false, false_or, or_false] at key ⊢
      exact key _
theorem l_go3 {K : Cx} {d : Nat} {σ : Sg} {m : Mm} {l : Ml} {a N : Nat} {rain s : Int32} {Q : Rt} {e4 : Value} (ha : isA σ a) (h7 : N ≤ 7) : ∀ (k v : Nat) (q : Nat → Int32), q 2 = nI N → v + k = N → (∀ e3 e4, WX (tX6_goes K (d + 2)) Q (173, [.ref a, .int rain, .int s, e3, e4], [], (0, 0), σ, setR m a (dwL N v k q), l)) → WX (tX6_goes K (d + 2)) Q (155, [.ref a, .int rain, .int s, .int (nI v), e4], [], (0, 0), σ, setR m a q, l) := by
  have ha0 := ha
  obtain ⟨h1, h2⟩ := ha
  intro k
  induction k with
  | zero =>
    intro v q hN hv hQ
    have c1 : (nI v < nI N) = False := by rw [ltN (by omega) (by omega)]; exact eq_false (by omega)
    rw [xX6_goes_155]
    simp only [xX6_goes_0, xX6_goes_1, xX6_goes_2, xX6_goes_3, xX6_goes_4, xX6_goes_5, xX6_goes_6, xX6_goes_7, xX6_goes_8, xX6_goes_11, xX6_goes_12, xX6_goes_14, xX6_goes_15, xX6_goes_16, xX6_goes_17, xX6_goes_18, xX6_goes_20, xX6_goes_21, xX6_goes_22, xX6_goes_23, xX6_goes_24, xX6_goes_25, xX6_goes_26, xX6_goes_28, xX6_goes_29, xX6_goes_31, xX6_goes_32, xX6_goes_33, xX6_goes_35, xX6_goes_36, xX6_goes_37, xX6_goes_38, xX6_goes_41, xX6_goes_43, xX6_goes_46, xX6_goes_47, xX6_goes_48, xX6_goes_49, xX6_goes_50, xX6_goes_53, xX6_goes_56, xX6_goes_57, xX6_goes_58, xX6_goes_59, xX6_goes_60, xX6_goes_61, xX6_goes_62, xX6_goes_65, xX6_goes_66, xX6_goes_68, xX6_goes_69, xX6_goes_70, xX6_goes_71, xX6_goes_72, xX6_goes_74, xX6_goes_75, xX6_goes_76, xX6_goes_77, xX6_goes_80, xX6_goes_81, xX6_goes_83, xX6_goes_84, xX6_goes_85, xX6_goes_86, xX6_goes_89, xX6_goes_90, xX6_goes_92, xX6_goes_93, xX6_goes_94, xX6_goes_95, xX6_goes_97, xX6_goes_98, xX6_goes_100, xX6_goes_101, xX6_goes_102, xX6_goes_103, xX6_goes_104, xX6_goes_106, xX6_goes_107, xX6_goes_108, xX6_goes_109, xX6_goes_111, xX6_goes_112, xX6_goes_113, xX6_goes_114, xX6_goes_115, xX6_goes_116, xX6_goes_118, xX6_goes_119, xX6_goes_120, xX6_goes_121, xX6_goes_123, xX6_goes_124, xX6_goes_125, xX6_goes_126, xX6_goes_127, xX6_goes_129, xX6_goes_130, xX6_goes_132, xX6_goes_133, xX6_goes_134, xX6_goes_135, xX6_goes_138, xX6_goes_139, xX6_goes_140, xX6_goes_141, xX6_goes_144, xX6_goes_145, xX6_goes_146, xX6_goes_147, xX6_goes_150, xX6_goes_153, xX6_goes_154, xX6_goes_156, xX6_goes_157, xX6_goes_158, xX6_goes_159, xX6_goes_162, xX6_goes_163, xX6_goes_164, xX6_goes_167, xX6_goes_170, xX6_goes_174, xX6_goes_175, xX6_goes_176, xX6_goes_177, xX6_goes_178, xX6_goes_179, xX6_goes_180, xX6_goes_181, Bool.false_eq_true, if_true, if_false, kl_i, kl_a, kl_s, kl_u, kl_l, okS_nil, okS_cons, cat_i, cat_a, cat_s, cat_l, Nat.reduceAdd, Nat.reduceLeDiff, Nat.reduceSub, Nat.sub_zero, Nat.sub_self, Nat.zero_add, Nat.le_refl, Nat.zero_le, List.length_cons, List.length_nil, true_and, and_true, true_or, or_true, eq_self, forall_const, true_implies, not_true_eq_false, not_false_eq_true, false_implies, implies_true, false_and, and_false, false_or, or_false, h1, h2, k5, k12, k19, k26, k33, cl0, cl1, cl2, cl3, cl4, vi0, vi1, vi2, vi3, vi4, setR_s, hN, c1]
    exact hQ _ _
  | succ k ih =>
    intro v q hN hv hQ
    have c1 : (nI v < nI N) = True := by rw [ltN (by omega) (by omega)]; exact eq_true (by omega)
    have hn : nxM N v < 7 := by unfold nxM; split <;> omega
    rw [xX6_goes_155]
    simp only [xX6_goes_0, xX6_goes_1, xX6_goes_2, xX6_goes_3, xX6_goes_4, xX6_goes_5, xX6_goes_6, xX6_goes_7, xX6_goes_8, xX6_goes_11, xX6_goes_12, xX6_goes_14, xX6_goes_15, xX6_goes_16, xX6_goes_17, xX6_goes_18, xX6_goes_20, xX6_goes_21, xX6_goes_22, xX6_goes_23, xX6_goes_24, xX6_goes_25, xX6_goes_26, xX6_goes_28, xX6_goes_29, xX6_goes_31, xX6_goes_32, xX6_goes_33, xX6_goes_35, xX6_goes_36, xX6_goes_37, xX6_goes_38, xX6_goes_41, xX6_goes_43, xX6_goes_46, xX6_goes_47, xX6_goes_48, xX6_goes_49, xX6_goes_50, xX6_goes_53, xX6_goes_56, xX6_goes_57, xX6_goes_58, xX6_goes_59, xX6_goes_60, xX6_goes_61, xX6_goes_62, xX6_goes_65, xX6_goes_66, xX6_goes_68, xX6_goes_69, xX6_goes_70, xX6_goes_71, xX6_goes_72, xX6_goes_74, xX6_goes_75, xX6_goes_76, xX6_goes_77, xX6_goes_80, xX6_goes_81, xX6_goes_83, xX6_goes_84, xX6_goes_85, xX6_goes_86, xX6_goes_89, xX6_goes_90, xX6_goes_92, xX6_goes_93, xX6_goes_94, xX6_goes_95, xX6_goes_97, xX6_goes_98, xX6_goes_100, xX6_goes_101, xX6_goes_102, xX6_goes_103, xX6_goes_104, xX6_goes_106, xX6_goes_107, xX6_goes_108, xX6_goes_109, xX6_goes_111, xX6_goes_112, xX6_goes_113, xX6_goes_114, xX6_goes_115, xX6_goes_116, xX6_goes_118, xX6_goes_119, xX6_goes_120, xX6_goes_121, xX6_goes_123, xX6_goes_124, xX6_goes_125, xX6_goes_126, xX6_goes_127, xX6_goes_129, xX6_goes_130, xX6_goes_132, xX6_goes_133, xX6_goes_134, xX6_goes_135, xX6_goes_138, xX6_goes_139, xX6_goes_140, xX6_goes_141, xX6_goes_144, xX6_goes_145, xX6_goes_146, xX6_goes_147, xX6_goes_150, xX6_goes_153, xX6_goes_154, xX6_goes_156, xX6_goes_157, xX6_goes_158, xX6_goes_159, xX6_goes_162, xX6_goes_163, xX6_goes_164, xX6_goes_167, xX6_goes_170, xX6_goes_174, xX6_goes_175, xX6_goes_176, xX6_goes_177, xX6_goes_178, xX6_goes_179, xX6_goes_180, xX6_goes_181, Bool.false_eq_true, if_true, if_false, kl_i, kl_a, kl_s, kl_u, kl_l, okS_nil, okS_cons, cat_i, cat_a, cat_s, cat_l, Nat.reduceAdd, Nat.reduceLeDiff, Nat.reduceSub, Nat.sub_zero, Nat.sub_self, Nat.zero_add, Nat.le_refl, Nat.zero_le, List.length_cons, List.length_nil, true_and, and_true, true_or, or_true, eq_self, forall_const, true_implies, not_true_eq_false, not_false_eq_true, false_implies, implies_true, false_and, and_false, false_or, or_false, h1, h2, k5, k12, k19, k26, k33, cl0, cl1, cl2, cl3, cl4, vi0, vi1, vi2, vi3, vi4, setR_s, hN, c1]
    refine t_mDraws ha0 hN h7 (by omega) ?_
    simp only [xX6_goes_0, xX6_goes_1, xX6_goes_2, xX6_goes_3, xX6_goes_4, xX6_goes_5, xX6_goes_6, xX6_goes_7, xX6_goes_8, xX6_goes_11, xX6_goes_12, xX6_goes_14, xX6_goes_15, xX6_goes_16, xX6_goes_17, xX6_goes_18, xX6_goes_20, xX6_goes_21, xX6_goes_22, xX6_goes_23, xX6_goes_24, xX6_goes_25, xX6_goes_26, xX6_goes_28, xX6_goes_29, xX6_goes_31, xX6_goes_32, xX6_goes_33, xX6_goes_35, xX6_goes_36, xX6_goes_37, xX6_goes_38, xX6_goes_41, xX6_goes_43, xX6_goes_46, xX6_goes_47, xX6_goes_48, xX6_goes_49, xX6_goes_50, xX6_goes_53, xX6_goes_56, xX6_goes_57, xX6_goes_58, xX6_goes_59, xX6_goes_60, xX6_goes_61, xX6_goes_62, xX6_goes_65, xX6_goes_66, xX6_goes_68, xX6_goes_69, xX6_goes_70, xX6_goes_71, xX6_goes_72, xX6_goes_74, xX6_goes_75, xX6_goes_76, xX6_goes_77, xX6_goes_80, xX6_goes_81, xX6_goes_83, xX6_goes_84, xX6_goes_85, xX6_goes_86, xX6_goes_89, xX6_goes_90, xX6_goes_92, xX6_goes_93, xX6_goes_94, xX6_goes_95, xX6_goes_97, xX6_goes_98, xX6_goes_100, xX6_goes_101, xX6_goes_102, xX6_goes_103, xX6_goes_104, xX6_goes_106, xX6_goes_107, xX6_goes_108, xX6_goes_109, xX6_goes_111, xX6_goes_112, xX6_goes_113, xX6_goes_114, xX6_goes_115, xX6_goes_116, xX6_goes_118, xX6_goes_119, xX6_goes_120, xX6_goes_121, xX6_goes_123, xX6_goes_124, xX6_goes_125, xX6_goes_126, xX6_goes_127, xX6_goes_129, xX6_goes_130, xX6_goes_132, xX6_goes_133, xX6_goes_134, xX6_goes_135, xX6_goes_138, xX6_goes_139, xX6_goes_140, xX6_goes_141, xX6_goes_144, xX6_goes_145, xX6_goes_146, xX6_goes_147, xX6_goes_150, xX6_goes_153, xX6_goes_154, xX6_goes_156, xX6_goes_157, xX6_goes_158, xX6_goes_159, xX6_goes_162, xX6_goes_163, xX6_goes_164, xX6_goes_167, xX6_goes_170, xX6_goes_174, xX6_goes_175, xX6_goes_176, xX6_goes_177, xX6_goes_178, xX6_goes_179, xX6_goes_180, xX6_goes_181, Bool.false_eq_true, if_true, if_false, kl_i, kl_a, kl_s, kl_u, kl_l, okS_nil, okS_cons, cat_i, cat_a, cat_s, cat_l, Nat.reduceAdd, Nat.reduceLeDiff, Nat.reduceSub, Nat.sub_zero, Nat.sub_self, Nat.zero_add, Nat.le_refl, Nat.zero_le, List.length_cons, List.length_nil, true_and, and_true, true_or, or_true, eq_self, forall_const, true_implies, not_true_eq_false, not_false_eq_true, false_implies, implies_true, false_and, and_false, false_or, or_false, nI1]
    exact ih (v + 1) _ (by rw [dwM_2 (by omega) (by omega) hn]; exact hN) (by omega) hQ
theorem t_mGoes {K : Cx} {d : Nat} {σ : Sg} {m : Mm} {l : Ml} {a N : Nat} {rain : Int32} {q : Nat → Int32} {Q : Rt} (ha : isA σ a) (hN : q 2 = nI N) (h7 : N ≤ 7) (hQ : Q (goS N q rain) σ (setR m a (goQ N q rain)) l) : CT K (d + 3) YX6_goes [.ref a, .int rain] σ (setR m a q) l Q := by
  refine kX6_goes ?_
  simp only [xX6_goes_0, xX6_goes_1, xX6_goes_2, xX6_goes_3, Bool.false_eq_true, if_true, if_false, kl_i, kl_a, kl_s, kl_u, kl_l, okS_nil, okS_cons, cat_i, cat_a, cat_s, cat_l, Nat.reduceAdd, Nat.reduceLeDiff, Nat.reduceSub, Nat.sub_zero, Nat.sub_self, Nat.zero_add, Nat.le_refl, Nat.zero_le, List.length_cons, List.length_nil, true_and, and_true, true_or, or_true, eq_self, forall_const, true_implies, not_true_eq_false, not_false_eq_true, false_implies, implies_true, false_and, and_false, false_or, or_false]
  refine l_go1 (s := 0) ha h7 N 0 q _ hN (by omega) (fun e3 e4 => ?_)
  simp only [xX6_goes_56, xX6_goes_57, Bool.false_eq_true, if_true, if_false, kl_i, kl_a, kl_s, kl_u, kl_l, okS_nil, okS_cons, cat_i, cat_a, cat_s, cat_l, Nat.reduceAdd, Nat.reduceLeDiff, Nat.reduceSub, Nat.sub_zero, Nat.sub_self, Nat.zero_add, Nat.le_refl, Nat.zero_le, List.length_cons, List.length_nil, true_and, and_true, true_or, or_true, eq_self, forall_const, true_implies, not_true_eq_false, not_false_eq_true, false_implies, implies_true, false_and, and_false, false_or, or_false]
  refine l_go2 ha h7 N 0 _ 0 e4 (by rw [rnL_2 (by omega)]; exact hN) (by omega) (fun e3 e4 => ?_)
  simp only [xX6_goes_153, xX6_goes_154, Bool.false_eq_true, if_true, if_false, kl_i, kl_a, kl_s, kl_u, kl_l, okS_nil, okS_cons, cat_i, cat_a, cat_s, cat_l, Nat.reduceAdd, Nat.reduceLeDiff, Nat.reduceSub, Nat.sub_zero, Nat.sub_self, Nat.zero_add, Nat.le_refl, Nat.zero_le, List.length_cons, List.length_nil, true_and, and_true, true_or, or_true, eq_self, forall_const, true_implies, not_true_eq_false, not_false_eq_true, false_implies, implies_true, false_and, and_false, false_or, or_false]
  refine l_go3 (s := (ldL 0 N (rnL rain 0 N q) 0).2) ha h7 N 0 _ (by rw [ldL_2 (by omega), rnL_2 (by omega)]; exact hN) (by omega) (fun e3 e4 => ?_)
  simp only [xX6_goes_0, xX6_goes_1, xX6_goes_2, xX6_goes_3, xX6_goes_5, xX6_goes_6, xX6_goes_7, xX6_goes_8, xX6_goes_11, xX6_goes_12, xX6_goes_14, xX6_goes_15, xX6_goes_16, xX6_goes_17, xX6_goes_18, xX6_goes_20, xX6_goes_21, xX6_goes_22, xX6_goes_23, xX6_goes_24, xX6_goes_25, xX6_goes_26, xX6_goes_28, xX6_goes_29, xX6_goes_31, xX6_goes_32, xX6_goes_33, xX6_goes_35, xX6_goes_36, xX6_goes_37, xX6_goes_38, xX6_goes_41, xX6_goes_43, xX6_goes_46, xX6_goes_47, xX6_goes_48, xX6_goes_49, xX6_goes_50, xX6_goes_53, xX6_goes_56, xX6_goes_57, xX6_goes_59, xX6_goes_60, xX6_goes_61, xX6_goes_62, xX6_goes_65, xX6_goes_66, xX6_goes_68, xX6_goes_69, xX6_goes_70, xX6_goes_71, xX6_goes_72, xX6_goes_74, xX6_goes_75, xX6_goes_76, xX6_goes_77, xX6_goes_80, xX6_goes_81, xX6_goes_83, xX6_goes_84, xX6_goes_85, xX6_goes_86, xX6_goes_89, xX6_goes_90, xX6_goes_92, xX6_goes_93, xX6_goes_94, xX6_goes_95, xX6_goes_97, xX6_goes_98, xX6_goes_100, xX6_goes_101, xX6_goes_102, xX6_goes_103, xX6_goes_104, xX6_goes_106, xX6_goes_107, xX6_goes_108, xX6_goes_109, xX6_goes_111, xX6_goes_112, xX6_goes_113, xX6_goes_114, xX6_goes_115, xX6_goes_116, xX6_goes_118, xX6_goes_119, xX6_goes_120, xX6_goes_121, xX6_goes_123, xX6_goes_124, xX6_goes_125, xX6_goes_126, xX6_goes_127, xX6_goes_129, xX6_goes_130, xX6_goes_132, xX6_goes_133, xX6_goes_134, xX6_goes_135, xX6_goes_138, xX6_goes_139, xX6_goes_140, xX6_goes_141, xX6_goes_144, xX6_goes_145, xX6_goes_146, xX6_goes_147, xX6_goes_150, xX6_goes_153, xX6_goes_154, xX6_goes_156, xX6_goes_157, xX6_goes_158, xX6_goes_159, xX6_goes_162, xX6_goes_163, xX6_goes_164, xX6_goes_167, xX6_goes_170, xX6_goes_173, xX6_goes_174, xX6_goes_175, xX6_goes_176, xX6_goes_177, xX6_goes_178, xX6_goes_179, xX6_goes_180, xX6_goes_181, Bool.false_eq_true, if_true, if_false, kl_i, kl_a, kl_s, kl_u, kl_l, okS_nil, okS_cons, cat_i, cat_a, cat_s, cat_l, Nat.reduceAdd, Nat.reduceLeDiff, Nat.reduceSub, Nat.sub_zero, Nat.sub_self, Nat.zero_add, Nat.le_refl, Nat.zero_le, List.length_cons, List.length_nil, true_and, and_true, true_or, or_true, eq_self, forall_const, true_implies, not_true_eq_false, not_false_eq_true, false_implies, implies_true, false_and, and_false, false_or, or_false, ha.1, ha.2, k5, k12, k19, k26, k33, cl0, cl1, cl2, cl3, cl4, vi0, vi1, vi2, vi3, vi4, setR_s, upM_setR, setR_setR]
  exact hQ
theorem l_mCopies {K : Cx} {d : Nat} {σ : Sg} {m : Mm} {l : Ml} {a b i j A B : Nat} {Q : Rt} (ha : isO σ a 100) (hb : isO σ b 100) (hla : ln σ a = A) (hlb : ln σ b = B) (hA : i + 40 ≤ A) (hB : j + 40 ≤ B) (hA2 : A < 10000) (hB2 : B < 10000) (hab : a ≠ b) : ∀ (k v : Nat), v + k = 40 → Q 0 σ (setR m b (va_cpy (m a) (m b) i j 40)) l → WX (tX6_copies K d) Q (3, [.ref a, .int (nI i), .ref b, .int (nI j), .int (nI v)], [], (0, 0), σ, setR m b (va_cpy (m a) (m b) i j v), l) := by
  intro k
  induction k with
  | zero =>
    intro v hv hQ
    obtain rfl : v = 40 := by omega
    have c1 : (nI 40 < 40) = False := eq_false (by decide)
    rw [xX6_copies_3]
    simp only [xX6_copies_0, xX6_copies_1, xX6_copies_5, xX6_copies_7, xX6_copies_10, xX6_copies_11, xX6_copies_12, xX6_copies_14, xX6_copies_15, xX6_copies_16, xX6_copies_17, xX6_copies_19, xX6_copies_20, xX6_copies_21, xX6_copies_22, xX6_copies_25, xX6_copies_28, Bool.false_eq_true, if_true, if_false, kl_i, kl_a, kl_s, kl_u, kl_l, okS_nil, okS_cons, cat_i, cat_a, cat_s, cat_l, Nat.reduceAdd, Nat.reduceLeDiff, Nat.reduceSub, Nat.sub_zero, Nat.sub_self, Nat.zero_add, Nat.le_refl, Nat.zero_le, List.length_cons, List.length_nil, true_and, and_true, true_or, or_true, eq_self, forall_const, true_implies, not_true_eq_false, not_false_eq_true, false_implies, implies_true, false_and, and_false, false_or, or_false, c1]
    exact hQ
  | succ k ih =>
    intro v hv hQ
    have c1 : (nI v < 40) = True := (ltN (a := v) (b := 40) (by omega) (by omega)).trans (eq_true (by omega))
    have ci := clN (v := i + v) (by omega)
    have ni := inN (v := i + v) (n := A) (by omega) (by omega)
    have cj := clN (v := j + v) (by omega)
    have nj := inN (v := j + v) (n := B) (by omega) (by omega)
    have e0 : ∀ f, setR m b f a = m a := fun f => setR_n _ _ hab
    rw [xX6_copies_3]
    simp only [xX6_copies_0, xX6_copies_1, xX6_copies_5, xX6_copies_7, xX6_copies_10, xX6_copies_11, xX6_copies_12, xX6_copies_14, xX6_copies_15, xX6_copies_16, xX6_copies_17, xX6_copies_19, xX6_copies_20, xX6_copies_21, xX6_copies_22, xX6_copies_25, xX6_copies_28, Bool.false_eq_true, if_true, if_false, kl_i, kl_a, kl_s, kl_u, kl_l, okS_nil, okS_cons, cat_i, cat_a, cat_s, cat_l, Nat.reduceAdd, Nat.reduceLeDiff, Nat.reduceSub, Nat.sub_zero, Nat.sub_self, Nat.zero_add, Nat.le_refl, Nat.zero_le, List.length_cons, List.length_nil, true_and, and_true, true_or, or_true, eq_self, forall_const, true_implies, not_true_eq_false, not_false_eq_true, false_implies, implies_true, false_and, and_false, false_or, or_false, c1, ha, hb, hla, hlb, nIk, ci, ni, cj, nj, e0, upM_setR, setR_setR, setR_s, nI1]
    have e : upd (va_cpy (m a) (m b) i j v) (j + v) (m a (i + v)) = va_cpy (m a) (m b) i j (v + 1) := by
      funext k
      simp only [upd, va_cpy]
      by_cases h : k = j + v
      · subst h
        rw [if_pos rfl, if_pos (by omega), Nat.add_sub_cancel_left]
      · rw [if_neg h]
        by_cases h2 : j ≤ k ∧ k < j + v
        · rw [if_pos h2, if_pos (by omega)]
        · rw [if_neg h2, if_neg (by omega)]
    rw [e]
    exact ih (v + 1) (by omega) hQ
theorem t_mCopies {K : Cx} {d : Nat} {σ : Sg} {m : Mm} {l : Ml} {a b i j A B : Nat} {Q : Rt} (ha : isO σ a 100) (hb : isO σ b 100) (hla : ln σ a = A) (hlb : ln σ b = B) (hA : i + 40 ≤ A) (hB : j + 40 ≤ B) (hA2 : A < 10000) (hB2 : B < 10000) (hab : a ≠ b) (hQ : Q 0 σ (setR m b (va_cpy (m a) (m b) i j 40)) l) : CT K (d + 1) YX6_copies [.ref a, .int (nI i), .ref b, .int (nI j)] σ m l Q := by
  refine kX6_copies ?_
  have key := l_mCopies (K := K) (d := d) (m := m) (l := l) ha hb hla hlb hA hB hA2 hB2 hab 40 0 (by omega) hQ
  have e : setR m b (va_cpy (m a) (m b) i j 0) = m := by
    have : va_cpy (m a) (m b) i j 0 = m b := by
      funext k
      simp only [va_cpy]
      rw [if_neg (by omega)]
    rw [this]
    exact setR_id m b
  rw [e] at key
  simp only [xX6_copies_0, xX6_copies_1, xX6_copies_5, xX6_copies_7, xX6_copies_10, xX6_copies_11, xX6_copies_12, xX6_copies_14, xX6_copies_15, xX6_copies_16, xX6_copies_17, xX6_copies_19, xX6_copies_20, xX6_copies_21, xX6_copies_22, xX6_copies_25, xX6_copies_28, Bool.false_eq_true, if_true, if_false, kl_i, kl_a, kl_s, kl_u, kl_l, okS_nil, okS_cons, cat_i, cat_a, cat_s, cat_l, Nat.reduceAdd, Nat.reduceLeDiff, Nat.reduceSub, Nat.sub_zero, Nat.sub_self, Nat.zero_add, Nat.le_refl, Nat.zero_le, List.length_cons, List.length_nil, true_and, and_true, true_or, or_true, eq_self, forall_const, true_implies, not_true_eq_false, not_false_eq_true, false_implies, implies_true, false_and, and_false, false_or, or_false]
  exact key
