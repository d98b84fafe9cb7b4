/-! the tape: tokens, told in numbers; the class's side -/
def isL (n : Nat) : Bool := decide (97 ≤ n) && decide (n ≤ 122)
def isF (n : Nat) : Bool := decide (48 ≤ n) && decide (n ≤ 57)
def srN (n : Nat) : Nat := if isL n then 1 else if isF n then 2 else if n = 59 then 3 else 4
def bl (n : Nat) : Bool := decide (n = 32) || decide (n = 10)
def skN (B : Nat → Nat) : Nat → Nat → Nat
  | 0, a => a
  | k + 1, a => if bl (B a) then skN B k (a + 1) else a
def wrN (B : Nat → Nat) (s : Nat) : Nat → Nat → Nat
  | 0, a => a
  | k + 1, a => if srN (B a) = s then wrN B s k (a + 1) else a
theorem skN_le (B : Nat → Nat) : ∀ k a, a ≤ skN B k a ∧ skN B k a ≤ a + k := by
  intro k
  induction k with
  | zero => intro a; exact ⟨Nat.le_refl _, Nat.le_refl _⟩
  | succ k ih =>
    intro a
    rw [skN]
    split
    · have := ih (a + 1); omega
    · omega
theorem wrN_le (B : Nat → Nat) (s : Nat) : ∀ k a, a ≤ wrN B s k a ∧ wrN B s k a ≤ a + k := by
  intro k
  induction k with
  | zero => intro a; exact ⟨Nat.le_refl _, Nat.le_refl _⟩
  | succ k ih =>
    intro a
    rw [wrN]
    split
    · have := ih (a + 1); omega
    · omega
/-- the byte of a sign -/
def bt (n : Nat) : Int32 := (nI n).toInt8.toInt32
theorem bt_32 {n : Nat} (h : n < 256) : (bt n = 32) = (n = 32) := propext ((by decide +kernel : ∀ n : Nat, n < 256 → (bt n = 32 ↔ n = 32)) n h)
theorem bt_10 {n : Nat} (h : n < 256) : (bt n = 10) = (n = 10) := propext ((by decide +kernel : ∀ n : Nat, n < 256 → (bt n = 10 ↔ n = 10)) n h)
theorem bt_59 {n : Nat} (h : n < 256) : (bt n = 59) = (n = 59) := propext ((by decide +kernel : ∀ n : Nat, n < 256 → (bt n = 59 ↔ n = 59)) n h)
theorem bt_L {n : Nat} (h : n < 256) : (¬ bt n < 97 ∧ ¬ 122 < bt n) = (isL n = true) := propext ((by decide +kernel : ∀ n : Nat, n < 256 → ((¬ bt n < 97 ∧ ¬ 122 < bt n) ↔ isL n = true)) n h)
theorem bt_F {n : Nat} (h : n < 256) : (¬ bt n < 48 ∧ ¬ 57 < bt n) = (isF n = true) := propext ((by decide +kernel : ∀ n : Nat, n < 256 → ((¬ bt n < 48 ∧ ¬ 57 < bt n) ↔ isF n = true)) n h)
theorem bt_fig {n : Nat} (h : isF n = true) : bt n - 48 = nI (n - 48) := (by decide +kernel : ∀ n : Nat, n < 58 → isF n = true → bt n - 48 = nI (n - 48)) n (by simp [isF] at h; omega) h
theorem t_isLetter {K : Cx} {d n : Nat} {σ : Sg} {m : Mm} {l : Ml} {Q : Rt} (h : n < 256) (hQ : Q (if isL n then 1 else 0) σ m l) : CT K (d + 1) YX3_isLetter [.int (bt n)] σ m l Q := by
  refine kX3_isLetter ?_
  simp only [xX3_isLetter_0, xX3_isLetter_1, xX3_isLetter_3, xX3_isLetter_6, xX3_isLetter_7, xX3_isLetter_9, xX3_isLetter_12, xX3_isLetter_13, xX3_isLetter_16, xX3_isLetter_17, Bool.false_eq_true, if_true, if_false, kl_i, kl_a, kl_s, kl_u, kl_l, okS_nil, okS_cons, cat_i, cat_a, cat_s, cat_l, Nat.reduceAdd, Nat.reduceLeDiff, Nat.reduceSub, Nat.sub_zero, Nat.sub_self, Nat.zero_add, Nat.le_refl, Nat.zero_le, List.length_cons, List.length_nil, true_and, and_true, true_or, or_true, eq_self, forall_const, true_implies, not_true_eq_false, not_false_eq_true, false_implies, implies_true, false_and, and_false, false_or, or_false]
  have e := bt_L h
  cases hl : isL n
  · rw [hl] at hQ e
    refine ⟨fun _ => hQ, fun h1 => ⟨fun _ => hQ, fun h2 => ?_⟩⟩
    have := e.mp ⟨h1, h2⟩
    cases this
  · rw [hl] at hQ e
    have := e.mpr rfl
    refine ⟨fun h1 => absurd h1 this.1, fun h1 => ⟨fun h2 => absurd h2 this.2, fun h2 => ?_⟩⟩
    first | exact hQ | exact ⟨fun h => absurd h (by decide), fun _ => hQ⟩
theorem t_isFigure {K : Cx} {d n : Nat} {σ : Sg} {m : Mm} {l : Ml} {Q : Rt} (h : n < 256) (hQ : Q (if isF n then 1 else 0) σ m l) : CT K (d + 1) YX3_isFigure [.int (bt n)] σ m l Q := by
  refine kX3_isFigure ?_
  simp only [xX3_isFigure_0, xX3_isFigure_1, xX3_isFigure_3, xX3_isFigure_6, xX3_isFigure_7, xX3_isFigure_9, xX3_isFigure_12, xX3_isFigure_13, xX3_isFigure_16, xX3_isFigure_17, Bool.false_eq_true, if_true, if_false, kl_i, kl_a, kl_s, kl_u, kl_l, okS_nil, okS_cons, cat_i, cat_a, cat_s, cat_l, Nat.reduceAdd, Nat.reduceLeDiff, Nat.reduceSub, Nat.sub_zero, Nat.sub_self, Nat.zero_add, Nat.le_refl, Nat.zero_le, List.length_cons, List.length_nil, true_and, and_true, true_or, or_true, eq_self, forall_const, true_implies, not_true_eq_false, not_false_eq_true, false_implies, implies_true, false_and, and_false, false_or, or_false]
  have e := bt_F h
  cases hl : isF n
  · rw [hl] at hQ e
    refine ⟨fun _ => hQ, fun h1 => ⟨fun _ => hQ, fun h2 => ?_⟩⟩
    have := e.mp ⟨h1, h2⟩
    cases this
  · rw [hl] at hQ e
    have := e.mpr rfl
    refine ⟨fun h1 => absurd h1 this.1, fun h1 => ⟨fun h2 => absurd h2 this.2, fun h2 => ?_⟩⟩
    first | exact hQ | exact ⟨fun h => absurd h (by decide), fun _ => hQ⟩
/-- the tape's own fields: fault, place, at, start, token, number -/
def tp (f : Nat → Int32) (fl pl a s t n : Int32) : Nat → Int32 := fun k => if k = 2 then fl else if k = 3 then pl else if k = 4 then a else if k = 5 then s else if k = 6 then t else if k = 7 then n else f k
theorem tp_1 (f : Nat → Int32) (fl pl a s t n : Int32) : tp f fl pl a s t n 1 = f 1 := rfl
theorem tp_2 (f : Nat → Int32) (fl pl a s t n : Int32) : tp f fl pl a s t n 2 = fl := rfl
theorem tp_3 (f : Nat → Int32) (fl pl a s t n : Int32) : tp f fl pl a s t n 3 = pl := rfl
theorem tp_4 (f : Nat → Int32) (fl pl a s t n : Int32) : tp f fl pl a s t n 4 = a := rfl
theorem tp_5 (f : Nat → Int32) (fl pl a s t n : Int32) : tp f fl pl a s t n 5 = s := rfl
theorem tp_6 (f : Nat → Int32) (fl pl a s t n : Int32) : tp f fl pl a s t n 6 = t := rfl
theorem tp_7 (f : Nat → Int32) (fl pl a s t n : Int32) : tp f fl pl a s t n 7 = n := rfl
theorem up_2 (f : Nat → Int32) (fl pl a s t n x : Int32) : upd (tp f fl pl a s t n) 2 x = tp f x pl a s t n := by
  funext k
  unfold upd tp
  by_cases h : k = 2
  · rw [if_pos h, if_pos h]
  · rw [if_neg h, if_neg h, if_neg h]
theorem up_3 (f : Nat → Int32) (fl pl a s t n x : Int32) : upd (tp f fl pl a s t n) 3 x = tp f fl x a s t n := by
  funext k
  unfold upd tp
  by_cases h : k = 3
  · subst h; rfl
  · rw [if_neg h, if_neg h, if_neg h]
theorem up_4 (f : Nat → Int32) (fl pl a s t n x : Int32) : upd (tp f fl pl a s t n) 4 x = tp f fl pl x s t n := by
  funext k
  unfold upd tp
  by_cases h : k = 4
  · subst h; rfl
  · rw [if_neg h, if_neg h, if_neg h]
theorem up_5 (f : Nat → Int32) (fl pl a s t n x : Int32) : upd (tp f fl pl a s t n) 5 x = tp f fl pl a x t n := by
  funext k
  unfold upd tp
  by_cases h : k = 5
  · subst h; rfl
  · rw [if_neg h, if_neg h, if_neg h]
theorem up_6 (f : Nat → Int32) (fl pl a s t n x : Int32) : upd (tp f fl pl a s t n) 6 x = tp f fl pl a s x n := by
  funext k
  unfold upd tp
  by_cases h : k = 6
  · subst h; rfl
  · rw [if_neg h, if_neg h, if_neg h]
theorem up_7 (f : Nat → Int32) (fl pl a s t n x : Int32) : upd (tp f fl pl a s t n) 7 x = tp f fl pl a s t x := by
  funext k
  unfold upd tp
  by_cases h : k = 7
  · subst h; rfl
  · rw [if_neg h, if_neg h, if_neg h]
theorem tp_id (f : Nat → Int32) : tp f (f 2) (f 3) (f 4) (f 5) (f 6) (f 7) = f := by
  funext k
  unfold tp
  by_cases h2 : k = 2
  · rw [if_pos h2, h2]
  by_cases h3 : k = 3
  · rw [if_neg h2, if_pos h3, h3]
  by_cases h4 : k = 4
  · rw [if_neg h2, if_neg h3, if_pos h4, h4]
  by_cases h5 : k = 5
  · rw [if_neg h2, if_neg h3, if_neg h4, if_pos h5, h5]
  by_cases h6 : k = 6
  · rw [if_neg h2, if_neg h3, if_neg h4, if_neg h5, if_pos h6, h6]
  by_cases h7 : k = 7
  · rw [if_neg h2, if_neg h3, if_neg h4, if_neg h5, if_neg h6, if_pos h7, h7]
  · rw [if_neg h2, if_neg h3, if_neg h4, if_neg h5, if_neg h6, if_neg h7]
def wfT (σ : Sg) : Prop := isO σ 31 3 ∧ rf σ 31 0 = .ref 32 ∧ isO σ 32 101 ∧ ln σ 32 = 400
/-- the tape's bytes: T of them -/
def tpH (m : Mm) (B : Nat → Nat) (T : Nat) : Prop := T ≤ 400 ∧ ∀ k, k < T → B k < 256 ∧ m 32 k = bt (B k)
theorem s31 (m : Mm) (F : Nat → Int32) : setR m 31 F 31 = F := setR_s m 31 F
theorem s31_32 (m : Mm) (F : Nat → Int32) : setR m 31 F 32 = m 32 := setR_n m F (by decide)
/-- a token that begins from a: what class and token number are told of it -/
theorem l_adv0 {K : Cx} {d T : Nat} {σ : Sg} {m : Mm} {l : Ml} {B : Nat → Nat} {f : Nat → Int32} {fl pl s t n : Int32} {Q : Rt} (hw : wfT σ) (hb : tpH m B T) (hT : f 1 = nI T) : ∀ (k a : Nat), a + k = T → WX (tX3_advance K d) Q (52, [.ref 31], [], (0, 0), σ, setR m 31 (tp f fl pl (nI (skN B k a)) s t n), l) → WX (tX3_advance K d) Q (0, [.ref 31], [], (0, 0), σ, setR m 31 (tp f fl pl (nI a) s t n), l) := by
  obtain ⟨T1, T2, T3, T4⟩ := hw
  obtain ⟨h400, hb⟩ := hb
  intro k
  induction k with
  | zero =>
    intro a ha hQ
    have c1 : (nI a < nI T) = False := (ltN (by omega) (by omega)).trans (eq_false (by omega))
    rw [xX3_advance_0]
    simp only [xX3_advance_1, xX3_advance_4, xX3_advance_5, xX3_advance_8, xX3_advance_11, xX3_advance_12, xX3_advance_15, xX3_advance_16, xX3_advance_19, xX3_advance_20, xX3_advance_22, xX3_advance_25, xX3_advance_26, xX3_advance_29, xX3_advance_30, xX3_advance_33, xX3_advance_34, xX3_advance_36, xX3_advance_39, xX3_advance_40, xX3_advance_41, xX3_advance_44, xX3_advance_45, xX3_advance_46, xX3_advance_49, xX3_advance_53, xX3_advance_54, xX3_advance_57, xX3_advance_60, xX3_advance_61, xX3_advance_64, xX3_advance_65, xX3_advance_68, xX3_advance_71, xX3_advance_72, xX3_advance_73, xX3_advance_76, xX3_advance_79, xX3_advance_80, xX3_advance_83, xX3_advance_84, xX3_advance_87, xX3_advance_88, xX3_advance_91, xX3_advance_94, xX3_advance_95, xX3_advance_96, xX3_advance_99, xX3_advance_100, xX3_advance_103, xX3_advance_104, xX3_advance_107, xX3_advance_110, xX3_advance_111, xX3_advance_114, xX3_advance_115, xX3_advance_118, xX3_advance_119, xX3_advance_122, xX3_advance_125, xX3_advance_126, xX3_advance_127, xX3_advance_130, xX3_advance_131, xX3_advance_132, xX3_advance_135, xX3_advance_138, xX3_advance_139, xX3_advance_142, xX3_advance_143, xX3_advance_146, xX3_advance_147, xX3_advance_150, xX3_advance_153, xX3_advance_154, xX3_advance_157, xX3_advance_160, xX3_advance_161, xX3_advance_162, xX3_advance_165, xX3_advance_166, xX3_advance_169, xX3_advance_170, xX3_advance_172, xX3_advance_175, xX3_advance_176, xX3_advance_179, xX3_advance_180, xX3_advance_183, xX3_advance_184, xX3_advance_185, xX3_advance_188, xX3_advance_189, xX3_advance_190, xX3_advance_193, Bool.false_eq_true, if_true, if_false, kl_i, kl_a, kl_s, kl_u, kl_l, okS_nil, okS_cons, cat_i, cat_a, cat_s, cat_l, Nat.reduceAdd, Nat.reduceLeDiff, Nat.reduceSub, Nat.sub_zero, Nat.sub_self, Nat.zero_add, Nat.le_refl, Nat.zero_le, List.length_cons, List.length_nil, true_and, and_true, true_or, or_true, eq_self, forall_const, true_implies, not_true_eq_false, not_false_eq_true, false_implies, implies_true, false_and, and_false, false_or, or_false, s31, s31_32, upM_setR, setR_setR, tp_1, tp_2, tp_3, tp_4, tp_5, tp_6, tp_7, up_2, up_3, up_4, up_5, up_6, up_7, T1, T2, T3, T4, hT, c1]
    exact hQ
  | succ k ih =>
    intro a ha hQ
    obtain ⟨g1, g2⟩ := hb a (by omega)
    have c1 : (nI a < nI T) = True := (ltN (by omega) (by omega)).trans (eq_true (by omega))
    have hcv := clN (v := a) (by omega)
    have hiv := inN (v := a) (n := 400) (by omega) (by omega)
    rw [xX3_advance_0]
    simp only [xX3_advance_1, xX3_advance_4, xX3_advance_5, xX3_advance_8, xX3_advance_11, xX3_advance_12, xX3_advance_15, xX3_advance_16, xX3_advance_19, xX3_advance_20, xX3_advance_22, xX3_advance_25, xX3_advance_26, xX3_advance_29, xX3_advance_30, xX3_advance_33, xX3_advance_34, xX3_advance_36, xX3_advance_39, xX3_advance_40, xX3_advance_41, xX3_advance_44, xX3_advance_45, xX3_advance_46, xX3_advance_49, xX3_advance_53, xX3_advance_54, xX3_advance_57, xX3_advance_60, xX3_advance_61, xX3_advance_64, xX3_advance_65, xX3_advance_68, xX3_advance_71, xX3_advance_72, xX3_advance_73, xX3_advance_76, xX3_advance_79, xX3_advance_80, xX3_advance_83, xX3_advance_84, xX3_advance_87, xX3_advance_88, xX3_advance_91, xX3_advance_94, xX3_advance_95, xX3_advance_96, xX3_advance_99, xX3_advance_100, xX3_advance_103, xX3_advance_104, xX3_advance_107, xX3_advance_110, xX3_advance_111, xX3_advance_114, xX3_advance_115, xX3_advance_118, xX3_advance_119, xX3_advance_122, xX3_advance_125, xX3_advance_126, xX3_advance_127, xX3_advance_130, xX3_advance_131, xX3_advance_132, xX3_advance_135, xX3_advance_138, xX3_advance_139, xX3_advance_142, xX3_advance_143, xX3_advance_146, xX3_advance_147, xX3_advance_150, xX3_advance_153, xX3_advance_154, xX3_advance_157, xX3_advance_160, xX3_advance_161, xX3_advance_162, xX3_advance_165, xX3_advance_166, xX3_advance_169, xX3_advance_170, xX3_advance_172, xX3_advance_175, xX3_advance_176, xX3_advance_179, xX3_advance_180, xX3_advance_183, xX3_advance_184, xX3_advance_185, xX3_advance_188, xX3_advance_189, xX3_advance_190, xX3_advance_193, Bool.false_eq_true, if_true, if_false, kl_i, kl_a, kl_s, kl_u, kl_l, okS_nil, okS_cons, cat_i, cat_a, cat_s, cat_l, Nat.reduceAdd, Nat.reduceLeDiff, Nat.reduceSub, Nat.sub_zero, Nat.sub_self, Nat.zero_add, Nat.le_refl, Nat.zero_le, List.length_cons, List.length_nil, true_and, and_true, true_or, or_true, eq_self, forall_const, true_implies, not_true_eq_false, not_false_eq_true, false_implies, implies_true, false_and, and_false, false_or, or_false, s31, s31_32, upM_setR, setR_setR, tp_1, tp_2, tp_3, tp_4, tp_5, tp_6, tp_7, up_2, up_3, up_4, up_5, up_6, up_7, T1, T2, T3, T4, hT, c1, hcv, hiv, g2, bt_32 g1, bt_10 g1, nI1]
    have key := ih (a + 1) (by omega)
    rw [skN] at hQ
    by_cases h1 : B a = 32
    · have hbl : bl (B a) = true := by rw [h1]; rfl
      simp only [h1, hbl, Bool.false_eq_true, if_true, if_false, kl_i, kl_a, kl_s, kl_u, kl_l, okS_nil, okS_cons, cat_i, cat_a, cat_s, cat_l, Nat.reduceAdd, Nat.reduceLeDiff, Nat.reduceSub, Nat.sub_zero, Nat.sub_self, Nat.zero_add, Nat.le_refl, Nat.zero_le, List.length_cons, List.length_nil, true_and, and_true, true_or, or_true, eq_self, forall_const, true_implies, not_true_eq_false, not_false_eq_true, false_implies, implies_true, false_and, and_false, false_or, or_false] at hQ ⊢
      exact key hQ
    · by_cases h2 : B a = 10
      · have hbl : bl (B a) = true := by rw [h2]; rfl
        simp only [h1, h2, hbl, Bool.false_eq_true, if_true, if_false, kl_i, kl_a, kl_s, kl_u, kl_l, okS_nil, okS_cons, cat_i, cat_a, cat_s, cat_l, Nat.reduceAdd, Nat.reduceLeDiff, Nat.reduceSub, Nat.sub_zero, Nat.sub_self, Nat.zero_add, Nat.le_refl, Nat.zero_le, List.length_cons, List.length_nil, true_and, and_true, true_or, or_true, eq_self, forall_const, true_implies, not_true_eq_false, not_false_eq_true, false_implies, implies_true, false_and, and_false, false_or, or_false] at hQ ⊢
        first | exact key hQ | (refine ⟨fun hh => key hQ, fun hh => key hQ⟩)
      · have hbl : bl (B a) = false := by simp [bl, h1, h2]
        simp only [h1, h2, hbl, Bool.false_eq_true, if_true, if_false, kl_i, kl_a, kl_s, kl_u, kl_l, okS_nil, okS_cons, cat_i, cat_a, cat_s, cat_l, Nat.reduceAdd, Nat.reduceLeDiff, Nat.reduceSub, Nat.sub_zero, Nat.sub_self, Nat.zero_add, Nat.le_refl, Nat.zero_le, List.length_cons, List.length_nil, true_and, and_true, true_or, or_true, eq_self, forall_const, true_implies, not_true_eq_false, not_false_eq_true, false_implies, implies_true, false_and, and_false, false_or, or_false] at hQ ⊢
        exact hQ
theorem l_adv1 {K : Cx} {d T : Nat} {σ : Sg} {m : Mm} {l : Ml} {B : Nat → Nat} {f : Nat → Int32} {fl pl s t n : Int32} {Q : Rt} (hw : wfT σ) (hb : tpH m B T) (hT : f 1 = nI T) : ∀ (k a : Nat), a + k = T → Q 0 σ (setR m 31 (tp f fl pl (nI (wrN B 1 k a)) s t n)) l → WX (tX3_advance K (d + 1)) Q (99, [.ref 31], [], (0, 0), σ, setR m 31 (tp f fl pl (nI a) s t n), l) := by
  obtain ⟨T1, T2, T3, T4⟩ := hw
  obtain ⟨h400, hb⟩ := hb
  intro k
  induction k with
  | zero =>
    intro a ha hQ
    have c1 : (nI a < nI T) = False := (ltN (by omega) (by omega)).trans (eq_false (by omega))
    rw [xX3_advance_99]
    simp only [xX3_advance_0, xX3_advance_1, xX3_advance_4, xX3_advance_5, xX3_advance_8, xX3_advance_11, xX3_advance_12, xX3_advance_15, xX3_advance_16, xX3_advance_19, xX3_advance_20, xX3_advance_22, xX3_advance_25, xX3_advance_26, xX3_advance_29, xX3_advance_30, xX3_advance_33, xX3_advance_34, xX3_advance_36, xX3_advance_39, xX3_advance_40, xX3_advance_41, xX3_advance_44, xX3_advance_45, xX3_advance_46, xX3_advance_49, xX3_advance_52, xX3_advance_53, xX3_advance_54, xX3_advance_57, xX3_advance_60, xX3_advance_61, xX3_advance_64, xX3_advance_65, xX3_advance_68, xX3_advance_71, xX3_advance_72, xX3_advance_73, xX3_advance_76, xX3_advance_79, xX3_advance_80, xX3_advance_83, xX3_advance_84, xX3_advance_87, xX3_advance_88, xX3_advance_91, xX3_advance_94, xX3_advance_95, xX3_advance_96, xX3_advance_100, xX3_advance_103, xX3_advance_104, xX3_advance_107, xX3_advance_110, xX3_advance_111, xX3_advance_114, xX3_advance_115, xX3_advance_118, xX3_advance_119, xX3_advance_122, xX3_advance_125, xX3_advance_126, xX3_advance_127, xX3_advance_130, xX3_advance_131, xX3_advance_132, xX3_advance_135, xX3_advance_138, xX3_advance_139, xX3_advance_142, xX3_advance_143, xX3_advance_146, xX3_advance_147, xX3_advance_150, xX3_advance_153, xX3_advance_154, xX3_advance_157, xX3_advance_160, xX3_advance_161, xX3_advance_162, xX3_advance_165, xX3_advance_166, xX3_advance_169, xX3_advance_170, xX3_advance_172, xX3_advance_175, xX3_advance_176, xX3_advance_179, xX3_advance_180, xX3_advance_183, xX3_advance_184, xX3_advance_185, xX3_advance_188, xX3_advance_189, xX3_advance_190, xX3_advance_193, Bool.false_eq_true, if_true, if_false, kl_i, kl_a, kl_s, kl_u, kl_l, okS_nil, okS_cons, cat_i, cat_a, cat_s, cat_l, Nat.reduceAdd, Nat.reduceLeDiff, Nat.reduceSub, Nat.sub_zero, Nat.sub_self, Nat.zero_add, Nat.le_refl, Nat.zero_le, List.length_cons, List.length_nil, true_and, and_true, true_or, or_true, eq_self, forall_const, true_implies, not_true_eq_false, not_false_eq_true, false_implies, implies_true, false_and, and_false, false_or, or_false, s31, s31_32, upM_setR, setR_setR, tp_1, tp_2, tp_3, tp_4, tp_5, tp_6, tp_7, up_2, up_3, up_4, up_5, up_6, up_7, T1, T2, T3, T4, hT, c1]
    exact hQ
  | succ k ih =>
    intro a ha hQ
    obtain ⟨g1, g2⟩ := hb a (by omega)
    have c1 : (nI a < nI T) = True := (ltN (by omega) (by omega)).trans (eq_true (by omega))
    have hcv := clN (v := a) (by omega)
    have hiv := inN (v := a) (n := 400) (by omega) (by omega)
    rw [xX3_advance_99]
    simp only [xX3_advance_0, xX3_advance_1, xX3_advance_4, xX3_advance_5, xX3_advance_8, xX3_advance_11, xX3_advance_12, xX3_advance_15, xX3_advance_16, xX3_advance_19, xX3_advance_20, xX3_advance_22, xX3_advance_25, xX3_advance_26, xX3_advance_29, xX3_advance_30, xX3_advance_33, xX3_advance_34, xX3_advance_36, xX3_advance_39, xX3_advance_40, xX3_advance_41, xX3_advance_44, xX3_advance_45, xX3_advance_46, xX3_advance_49, xX3_advance_52, xX3_advance_53, xX3_advance_54, xX3_advance_57, xX3_advance_60, xX3_advance_61, xX3_advance_64, xX3_advance_65, xX3_advance_68, xX3_advance_71, xX3_advance_72, xX3_advance_73, xX3_advance_76, xX3_advance_79, xX3_advance_80, xX3_advance_83, xX3_advance_84, xX3_advance_87, xX3_advance_88, xX3_advance_91, xX3_advance_94, xX3_advance_95, xX3_advance_96, xX3_advance_100, xX3_advance_103, xX3_advance_104, xX3_advance_107, xX3_advance_110, xX3_advance_111, xX3_advance_114, xX3_advance_115, xX3_advance_118, xX3_advance_119, xX3_advance_122, xX3_advance_125, xX3_advance_126, xX3_advance_127, xX3_advance_130, xX3_advance_131, xX3_advance_132, xX3_advance_135, xX3_advance_138, xX3_advance_139, xX3_advance_142, xX3_advance_143, xX3_advance_146, xX3_advance_147, xX3_advance_150, xX3_advance_153, xX3_advance_154, xX3_advance_157, xX3_advance_160, xX3_advance_161, xX3_advance_162, xX3_advance_165, xX3_advance_166, xX3_advance_169, xX3_advance_170, xX3_advance_172, xX3_advance_175, xX3_advance_176, xX3_advance_179, xX3_advance_180, xX3_advance_183, xX3_advance_184, xX3_advance_185, xX3_advance_188, xX3_advance_189, xX3_advance_190, xX3_advance_193, Bool.false_eq_true, if_true, if_false, kl_i, kl_a, kl_s, kl_u, kl_l, okS_nil, okS_cons, cat_i, cat_a, cat_s, cat_l, Nat.reduceAdd, Nat.reduceLeDiff, Nat.reduceSub, Nat.sub_zero, Nat.sub_self, Nat.zero_add, Nat.le_refl, Nat.zero_le, List.length_cons, List.length_nil, true_and, and_true, true_or, or_true, eq_self, forall_const, true_implies, not_true_eq_false, not_false_eq_true, false_implies, implies_true, false_and, and_false, false_or, or_false, s31, s31_32, upM_setR, setR_setR, tp_1, tp_2, tp_3, tp_4, tp_5, tp_6, tp_7, up_2, up_3, up_4, up_5, up_6, up_7, T1, T2, T3, T4, hT, c1, hcv, hiv, g2]
    refine t_isLetter g1 ?_
    rw [wrN] at hQ
    cases hl : isL (B a)
    · have hs : (srN (B a) = 1) = False := eq_false (by unfold srN; rw [hl]; simp only [Bool.false_eq_true, if_false]; split <;> (try split) <;> decide)
      simp only [xX3_advance_0, xX3_advance_1, xX3_advance_4, xX3_advance_5, xX3_advance_8, xX3_advance_11, xX3_advance_12, xX3_advance_15, xX3_advance_16, xX3_advance_19, xX3_advance_20, xX3_advance_22, xX3_advance_25, xX3_advance_26, xX3_advance_29, xX3_advance_30, xX3_advance_33, xX3_advance_34, xX3_advance_36, xX3_advance_39, xX3_advance_40, xX3_advance_41, xX3_advance_44, xX3_advance_45, xX3_advance_46, xX3_advance_49, xX3_advance_52, xX3_advance_53, xX3_advance_54, xX3_advance_57, xX3_advance_60, xX3_advance_61, xX3_advance_64, xX3_advance_65, xX3_advance_68, xX3_advance_71, xX3_advance_72, xX3_advance_73, xX3_advance_76, xX3_advance_79, xX3_advance_80, xX3_advance_83, xX3_advance_84, xX3_advance_87, xX3_advance_88, xX3_advance_91, xX3_advance_94, xX3_advance_95, xX3_advance_96, xX3_advance_100, xX3_advance_103, xX3_advance_104, xX3_advance_107, xX3_advance_110, xX3_advance_111, xX3_advance_114, xX3_advance_115, xX3_advance_118, xX3_advance_119, xX3_advance_122, xX3_advance_125, xX3_advance_126, xX3_advance_127, xX3_advance_130, xX3_advance_131, xX3_advance_132, xX3_advance_135, xX3_advance_138, xX3_advance_139, xX3_advance_142, xX3_advance_143, xX3_advance_146, xX3_advance_147, xX3_advance_150, xX3_advance_153, xX3_advance_154, xX3_advance_157, xX3_advance_160, xX3_advance_161, xX3_advance_162, xX3_advance_165, xX3_advance_166, xX3_advance_169, xX3_advance_170, xX3_advance_172, xX3_advance_175, xX3_advance_176, xX3_advance_179, xX3_advance_180, xX3_advance_183, xX3_advance_184, xX3_advance_185, xX3_advance_188, xX3_advance_189, xX3_advance_190, xX3_advance_193, hs, Bool.false_eq_true, if_true, if_false, kl_i, kl_a, kl_s, kl_u, kl_l, okS_nil, okS_cons, cat_i, cat_a, cat_s, cat_l, Nat.reduceAdd, Nat.reduceLeDiff, Nat.reduceSub, Nat.sub_zero, Nat.sub_self, Nat.zero_add, Nat.le_refl, Nat.zero_le, List.length_cons, List.length_nil, true_and, and_true, true_or, or_true, eq_self, forall_const, true_implies, not_true_eq_false, not_false_eq_true, false_implies, implies_true, false_and, and_false, false_or, or_false] at hQ ⊢
      exact hQ
    · have hs : srN (B a) = 1 := by unfold srN; rw [hl]; rfl
      simp only [xX3_advance_0, xX3_advance_1, xX3_advance_4, xX3_advance_5, xX3_advance_8, xX3_advance_11, xX3_advance_12, xX3_advance_15, xX3_advance_16, xX3_advance_19, xX3_advance_20, xX3_advance_22, xX3_advance_25, xX3_advance_26, xX3_advance_29, xX3_advance_30, xX3_advance_33, xX3_advance_34, xX3_advance_36, xX3_advance_39, xX3_advance_40, xX3_advance_41, xX3_advance_44, xX3_advance_45, xX3_advance_46, xX3_advance_49, xX3_advance_52, xX3_advance_53, xX3_advance_54, xX3_advance_57, xX3_advance_60, xX3_advance_61, xX3_advance_64, xX3_advance_65, xX3_advance_68, xX3_advance_71, xX3_advance_72, xX3_advance_73, xX3_advance_76, xX3_advance_79, xX3_advance_80, xX3_advance_83, xX3_advance_84, xX3_advance_87, xX3_advance_88, xX3_advance_91, xX3_advance_94, xX3_advance_95, xX3_advance_96, xX3_advance_100, xX3_advance_103, xX3_advance_104, xX3_advance_107, xX3_advance_110, xX3_advance_111, xX3_advance_114, xX3_advance_115, xX3_advance_118, xX3_advance_119, xX3_advance_122, xX3_advance_125, xX3_advance_126, xX3_advance_127, xX3_advance_130, xX3_advance_131, xX3_advance_132, xX3_advance_135, xX3_advance_138, xX3_advance_139, xX3_advance_142, xX3_advance_143, xX3_advance_146, xX3_advance_147, xX3_advance_150, xX3_advance_153, xX3_advance_154, xX3_advance_157, xX3_advance_160, xX3_advance_161, xX3_advance_162, xX3_advance_165, xX3_advance_166, xX3_advance_169, xX3_advance_170, xX3_advance_172, xX3_advance_175, xX3_advance_176, xX3_advance_179, xX3_advance_180, xX3_advance_183, xX3_advance_184, xX3_advance_185, xX3_advance_188, xX3_advance_189, xX3_advance_190, xX3_advance_193, hs, Bool.false_eq_true, if_true, if_false, kl_i, kl_a, kl_s, kl_u, kl_l, okS_nil, okS_cons, cat_i, cat_a, cat_s, cat_l, Nat.reduceAdd, Nat.reduceLeDiff, Nat.reduceSub, Nat.sub_zero, Nat.sub_self, Nat.zero_add, Nat.le_refl, Nat.zero_le, List.length_cons, List.length_nil, true_and, and_true, true_or, or_true, eq_self, forall_const, true_implies, not_true_eq_false, not_false_eq_true, false_implies, implies_true, false_and, and_false, false_or, or_false, s31, s31_32, upM_setR, setR_setR, tp_1, tp_2, tp_3, tp_4, tp_5, tp_6, tp_7, up_2, up_3, up_4, up_5, up_6, up_7, T1, T2, T3, T4, i10, nI1] at hQ ⊢
      exact ih (a + 1) (by omega) hQ
/-- the number of the first three figures -/
def vN (B : Nat → Nat) (s : Nat) : Nat → Nat
  | 0 => 0
  | k + 1 => if k < 3 then 10 * vN B s k + (B (s + k) - 48) else vN B s k
