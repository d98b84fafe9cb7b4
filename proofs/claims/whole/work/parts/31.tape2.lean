/-! numbers on the tape; the next token; bytes fed -/
theorem nIs (s i : Nat) : nI (s + i) - nI s = nI i := by
  rw [← nIk s i, Int32.add_comm, Int32.add_sub_cancel]
theorem m10 : ∀ v : Nat, v < 1000 → nI v * 10 = nI (10 * v) := by decide +kernel
theorem srF {n : Nat} : (srN n = 2) = (isF n = true) := by
  refine propext ⟨fun h => ?_, fun h => ?_⟩
  · unfold srN at h
    by_cases h1 : isL n = true
    · rw [if_pos h1] at h; cases h
    · rw [if_neg h1] at h
      by_cases h2 : isF n = true
      · exact h2
      · rw [if_neg h2] at h
        split at h <;> cases h
  · have h1 : ¬ isL n = true := by
      intro h2
      simp [isL, isF] at h h2
      omega
    unfold srN
    rw [if_neg h1, if_pos h]
theorem srL {n : Nat} : (srN n = 1) = (isL n = true) := by
  refine propext ⟨fun h => ?_, fun h => ?_⟩
  · unfold srN at h
    by_cases h1 : isL n = true
    · exact h1
    · rw [if_neg h1] at h
      split at h
      · cases h
      · split at h <;> cases h
  · unfold srN
    rw [if_pos h]
theorem vN_b (B : Nat → Nat) (s : Nat) : ∀ k, (∀ j, j < k → isF (B (s + j)) = true) → (k ≤ 3 → vN B s k < 10 ^ k) ∧ vN B s k < 1000 := by
  intro k
  induction k with
  | zero => intro _; exact ⟨fun _ => Nat.lt_succ_self 0, Nat.zero_lt_succ _⟩
  | succ k ih =>
    intro h
    obtain ⟨i1, i2⟩ := ih (fun j hj => h j (by omega))
    have hf := h k (by omega)
    simp [isF] at hf
    rw [vN]
    by_cases h3 : k < 3
    · rw [if_pos h3]
      have j1 := i1 (by omega)
      have e : 10 ^ (k + 1) = 10 * 10 ^ k := by rw [Nat.pow_succ, Nat.mul_comm]
      refine ⟨fun _ => by omega, ?_⟩
      have : 10 ^ k ≤ 100 := by
        have : k = 0 ∨ k = 1 ∨ k = 2 := by omega
        rcases this with e | e | e <;> subst e <;> decide
      omega
    · rw [if_neg h3]
      exact ⟨fun h => by omega, i2⟩
theorem l_adn {K : Cx} {d T s : Nat} {σ : Sg} {m : Mm} {l : Ml} {B : Nat → Nat} {f : Nat → Int32} {fl pl t : Int32} {Q : Rt} (hw : wfT σ) (hb : tpH m B T) (hT : f 1 = nI T) : ∀ (k i : Nat), s + i + k = T → (∀ j, j < i → isF (B (s + j)) = true) →
    (∀ e, e = wrN B 2 k (s + i) → Q 0 σ (setR m 31 (tp f fl pl (nI e) (nI s) (if e - s ≤ 3 then 2 else 0) (nI (vN B s (e - s))))) l) → WX (tX3_advanceNumber K (d + 1)) Q (5, [.ref 31], [], (0, 0), σ, setR m 31 (tp f fl pl (nI (s + i)) (nI s) t (nI (vN B s i))), l) := by
  obtain ⟨T1, T2, T3, T4⟩ := hw
  obtain ⟨h400, hb⟩ := hb
  have fin : ∀ i, s + i ≤ T → Q 0 σ (setR m 31 (tp f fl pl (nI (s + i)) (nI s) (if s + i - s ≤ 3 then 2 else 0) (nI (vN B s (s + i - s))))) l → WX (tX3_advanceNumber K (d + 1)) Q (81, [.ref 31], [], (0, 0), σ, setR m 31 (tp f fl pl (nI (s + i)) (nI s) t (nI (vN B s i))), l) := by
    intro i hi hQ
    have e0 : s + i - s = i := by omega
    have c1 : ((3 : Int32) < nI i) = (3 < i) := ltN (a := 3) (b := i) (by omega) (by omega)
    rw [e0] at hQ
    simp only [xX3_advanceNumber_0, xX3_advanceNumber_1, xX3_advanceNumber_2, xX3_advanceNumber_6, xX3_advanceNumber_9, xX3_advanceNumber_10, xX3_advanceNumber_13, xX3_advanceNumber_16, xX3_advanceNumber_17, xX3_advanceNumber_20, xX3_advanceNumber_21, xX3_advanceNumber_24, xX3_advanceNumber_25, xX3_advanceNumber_28, xX3_advanceNumber_31, xX3_advanceNumber_32, xX3_advanceNumber_35, xX3_advanceNumber_36, xX3_advanceNumber_39, xX3_advanceNumber_40, xX3_advanceNumber_41, xX3_advanceNumber_44, xX3_advanceNumber_45, xX3_advanceNumber_46, xX3_advanceNumber_49, xX3_advanceNumber_51, xX3_advanceNumber_52, xX3_advanceNumber_53, xX3_advanceNumber_56, xX3_advanceNumber_57, xX3_advanceNumber_60, xX3_advanceNumber_61, xX3_advanceNumber_63, xX3_advanceNumber_64, xX3_advanceNumber_65, xX3_advanceNumber_68, xX3_advanceNumber_69, xX3_advanceNumber_70, xX3_advanceNumber_73, xX3_advanceNumber_74, xX3_advanceNumber_75, xX3_advanceNumber_78, xX3_advanceNumber_81, xX3_advanceNumber_82, xX3_advanceNumber_83, xX3_advanceNumber_86, xX3_advanceNumber_87, xX3_advanceNumber_90, xX3_advanceNumber_91, xX3_advanceNumber_92, xX3_advanceNumber_95, xX3_advanceNumber_96, xX3_advanceNumber_99, xX3_advanceNumber_100, xX3_advanceNumber_103, Bool.false_eq_true, if_true, if_false, kl_i, kl_a, kl_s, kl_u, kl_l, okS_nil, okS_cons, cat_i, cat_a, cat_s, cat_l, Nat.reduceAdd, Nat.reduceLeDiff, Nat.reduceSub, Nat.sub_zero, Nat.sub_self, Nat.zero_add, Nat.le_refl, Nat.zero_le, List.length_cons, List.length_nil, true_and, and_true, true_or, or_true, eq_self, forall_const, true_implies, not_true_eq_false, not_false_eq_true, false_implies, implies_true, false_and, and_false, false_or, or_false, s31, s31_32, upM_setR, setR_setR, tp_1, tp_2, tp_3, tp_4, tp_5, tp_6, tp_7, up_2, up_3, up_4, up_5, up_6, up_7, T1, T2, T3, T4, nIs, c1]
    by_cases h : i ≤ 3
    · rw [if_pos h] at hQ
      exact ⟨fun h2 => absurd h2 (by omega), fun _ => hQ⟩
    · rw [if_neg h] at hQ
      exact ⟨fun _ => hQ, fun h2 => absurd h2 (by omega)⟩
  intro k
  induction k with
  | zero =>
    intro i ha hj hQ
    have c1 : (nI (s + i) < nI T) = False := (ltN (by omega) (by omega)).trans (eq_false (by omega))
    rw [xX3_advanceNumber_5]
    simp only [xX3_advanceNumber_0, xX3_advanceNumber_1, xX3_advanceNumber_2, xX3_advanceNumber_6, xX3_advanceNumber_9, xX3_advanceNumber_10, xX3_advanceNumber_13, xX3_advanceNumber_16, xX3_advanceNumber_17, xX3_advanceNumber_20, xX3_advanceNumber_21, xX3_advanceNumber_24, xX3_advanceNumber_25, xX3_advanceNumber_28, xX3_advanceNumber_31, xX3_advanceNumber_32, xX3_advanceNumber_35, xX3_advanceNumber_36, xX3_advanceNumber_39, xX3_advanceNumber_40, xX3_advanceNumber_41, xX3_advanceNumber_44, xX3_advanceNumber_45, xX3_advanceNumber_46, xX3_advanceNumber_49, xX3_advanceNumber_51, xX3_advanceNumber_52, xX3_advanceNumber_53, xX3_advanceNumber_56, xX3_advanceNumber_57, xX3_advanceNumber_60, xX3_advanceNumber_61, xX3_advanceNumber_63, xX3_advanceNumber_64, xX3_advanceNumber_65, xX3_advanceNumber_68, xX3_advanceNumber_69, xX3_advanceNumber_70, xX3_advanceNumber_73, xX3_advanceNumber_74, xX3_advanceNumber_75, xX3_advanceNumber_78, xX3_advanceNumber_82, xX3_advanceNumber_83, xX3_advanceNumber_86, xX3_advanceNumber_87, xX3_advanceNumber_90, xX3_advanceNumber_91, xX3_advanceNumber_92, xX3_advanceNumber_95, xX3_advanceNumber_96, xX3_advanceNumber_99, xX3_advanceNumber_100, xX3_advanceNumber_103, Bool.false_eq_true, if_true, if_false, kl_i, kl_a, kl_s, kl_u, kl_l, okS_nil, okS_cons, cat_i, cat_a, cat_s, cat_l, Nat.reduceAdd, Nat.reduceLeDiff, Nat.reduceSub, Nat.sub_zero, Nat.sub_self, Nat.zero_add, Nat.le_refl, Nat.zero_le, List.length_cons, List.length_nil, true_and, and_true, true_or, or_true, eq_self, forall_const, true_implies, not_true_eq_false, not_false_eq_true, false_implies, implies_true, false_and, and_false, false_or, or_false, s31, s31_32, upM_setR, setR_setR, tp_1, tp_2, tp_3, tp_4, tp_5, tp_6, tp_7, up_2, up_3, up_4, up_5, up_6, up_7, T1, T2, T3, T4, hT, c1]
    exact fin i (by omega) (hQ _ rfl)
  | succ k ih =>
    intro i ha hj hQ
    obtain ⟨g1, g2⟩ := hb (s + i) (by omega)
    have c1 : (nI (s + i) < nI T) = True := (ltN (by omega) (by omega)).trans (eq_true (by omega))
    have hcv := clN (v := s + i) (by omega)
    have hiv := inN (v := s + i) (n := 400) (by omega) (by omega)
    have c3 : (nI i < 3) = (i < 3) := ltN (a := i) (b := 3) (by omega) (by omega)
    rw [xX3_advanceNumber_5]
    simp only [xX3_advanceNumber_0, xX3_advanceNumber_1, xX3_advanceNumber_2, xX3_advanceNumber_6, xX3_advanceNumber_9, xX3_advanceNumber_10, xX3_advanceNumber_13, xX3_advanceNumber_16, xX3_advanceNumber_17, xX3_advanceNumber_20, xX3_advanceNumber_21, xX3_advanceNumber_24, xX3_advanceNumber_25, xX3_advanceNumber_28, xX3_advanceNumber_31, xX3_advanceNumber_32, xX3_advanceNumber_35, xX3_advanceNumber_36, xX3_advanceNumber_39, xX3_advanceNumber_40, xX3_advanceNumber_41, xX3_advanceNumber_44, xX3_advanceNumber_45, xX3_advanceNumber_46, xX3_advanceNumber_49, xX3_advanceNumber_51, xX3_advanceNumber_52, xX3_advanceNumber_53, xX3_advanceNumber_56, xX3_advanceNumber_57, xX3_advanceNumber_60, xX3_advanceNumber_61, xX3_advanceNumber_63, xX3_advanceNumber_64, xX3_advanceNumber_65, xX3_advanceNumber_68, xX3_advanceNumber_69, xX3_advanceNumber_70, xX3_advanceNumber_73, xX3_advanceNumber_74, xX3_advanceNumber_75, xX3_advanceNumber_78, xX3_advanceNumber_82, xX3_advanceNumber_83, xX3_advanceNumber_86, xX3_advanceNumber_87, xX3_advanceNumber_90, xX3_advanceNumber_91, xX3_advanceNumber_92, xX3_advanceNumber_95, xX3_advanceNumber_96, xX3_advanceNumber_99, xX3_advanceNumber_100, xX3_advanceNumber_103, Bool.false_eq_true, if_true, if_false, kl_i, kl_a, kl_s, kl_u, kl_l, okS_nil, okS_cons, cat_i, cat_a, cat_s, cat_l, Nat.reduceAdd, Nat.reduceLeDiff, Nat.reduceSub, Nat.sub_zero, Nat.sub_self, Nat.zero_add, Nat.le_refl, Nat.zero_le, List.length_cons, List.length_nil, true_and, and_true, true_or, or_true, eq_self, forall_const, true_implies, not_true_eq_false, not_false_eq_true, false_implies, implies_true, false_and, and_false, false_or, or_false, s31, s31_32, upM_setR, setR_setR, tp_1, tp_2, tp_3, tp_4, tp_5, tp_6, tp_7, up_2, up_3, up_4, up_5, up_6, up_7, T1, T2, T3, T4, hT, c1, hcv, hiv, g2]
    refine t_isFigure g1 ?_
    rw [wrN] at hQ
    cases hl : isF (B (s + i))
    · have hs : (srN (B (s + i)) = 2) = False := by rw [srF, hl]; exact eq_false (by decide)
      simp only [xX3_advanceNumber_0, xX3_advanceNumber_1, xX3_advanceNumber_2, xX3_advanceNumber_6, xX3_advanceNumber_9, xX3_advanceNumber_10, xX3_advanceNumber_13, xX3_advanceNumber_16, xX3_advanceNumber_17, xX3_advanceNumber_20, xX3_advanceNumber_21, xX3_advanceNumber_24, xX3_advanceNumber_25, xX3_advanceNumber_28, xX3_advanceNumber_31, xX3_advanceNumber_32, xX3_advanceNumber_35, xX3_advanceNumber_36, xX3_advanceNumber_39, xX3_advanceNumber_40, xX3_advanceNumber_41, xX3_advanceNumber_44, xX3_advanceNumber_45, xX3_advanceNumber_46, xX3_advanceNumber_49, xX3_advanceNumber_51, xX3_advanceNumber_52, xX3_advanceNumber_53, xX3_advanceNumber_56, xX3_advanceNumber_57, xX3_advanceNumber_60, xX3_advanceNumber_61, xX3_advanceNumber_63, xX3_advanceNumber_64, xX3_advanceNumber_65, xX3_advanceNumber_68, xX3_advanceNumber_69, xX3_advanceNumber_70, xX3_advanceNumber_73, xX3_advanceNumber_74, xX3_advanceNumber_75, xX3_advanceNumber_78, xX3_advanceNumber_82, xX3_advanceNumber_83, xX3_advanceNumber_86, xX3_advanceNumber_87, xX3_advanceNumber_90, xX3_advanceNumber_91, xX3_advanceNumber_92, xX3_advanceNumber_95, xX3_advanceNumber_96, xX3_advanceNumber_99, xX3_advanceNumber_100, xX3_advanceNumber_103, hs, Bool.false_eq_true, if_true, if_false, kl_i, kl_a, kl_s, kl_u, kl_l, okS_nil, okS_cons, cat_i, cat_a, cat_s, cat_l, Nat.reduceAdd, Nat.reduceLeDiff, Nat.reduceSub, Nat.sub_zero, Nat.sub_self, Nat.zero_add, Nat.le_refl, Nat.zero_le, List.length_cons, List.length_nil, true_and, and_true, true_or, or_true, eq_self, forall_const, true_implies, not_true_eq_false, not_false_eq_true, false_implies, implies_true, false_and, and_false, false_or, or_false] at hQ ⊢
      exact fin i (by omega) (hQ _ rfl)
    · have hs : (srN (B (s + i)) = 2) = True := by rw [srF, hl]; exact eq_true rfl
      have hj' : ∀ j, j < i + 1 → isF (B (s + j)) = true := fun j hlt => by
        by_cases e : j = i
        · rw [e]; exact hl
        · exact hj j (by omega)
      have key := ih (i + 1) (by omega) hj'
      simp only [hs, if_true] at hQ
      have key := key hQ
      simp only [xX3_advanceNumber_0, xX3_advanceNumber_1, xX3_advanceNumber_2, xX3_advanceNumber_6, xX3_advanceNumber_9, xX3_advanceNumber_10, xX3_advanceNumber_13, xX3_advanceNumber_16, xX3_advanceNumber_17, xX3_advanceNumber_20, xX3_advanceNumber_21, xX3_advanceNumber_24, xX3_advanceNumber_25, xX3_advanceNumber_28, xX3_advanceNumber_31, xX3_advanceNumber_32, xX3_advanceNumber_35, xX3_advanceNumber_36, xX3_advanceNumber_39, xX3_advanceNumber_40, xX3_advanceNumber_41, xX3_advanceNumber_44, xX3_advanceNumber_45, xX3_advanceNumber_46, xX3_advanceNumber_49, xX3_advanceNumber_51, xX3_advanceNumber_52, xX3_advanceNumber_53, xX3_advanceNumber_56, xX3_advanceNumber_57, xX3_advanceNumber_60, xX3_advanceNumber_61, xX3_advanceNumber_63, xX3_advanceNumber_64, xX3_advanceNumber_65, xX3_advanceNumber_68, xX3_advanceNumber_69, xX3_advanceNumber_70, xX3_advanceNumber_73, xX3_advanceNumber_74, xX3_advanceNumber_75, xX3_advanceNumber_78, xX3_advanceNumber_82, xX3_advanceNumber_83, xX3_advanceNumber_86, xX3_advanceNumber_87, xX3_advanceNumber_90, xX3_advanceNumber_91, xX3_advanceNumber_92, xX3_advanceNumber_95, xX3_advanceNumber_96, xX3_advanceNumber_99, xX3_advanceNumber_100, xX3_advanceNumber_103, Bool.false_eq_true, if_true, if_false, kl_i, kl_a, kl_s, kl_u, kl_l, okS_nil, okS_cons, cat_i, cat_a, cat_s, cat_l, Nat.reduceAdd, Nat.reduceLeDiff, Nat.reduceSub, Nat.sub_zero, Nat.sub_self, Nat.zero_add, Nat.le_refl, Nat.zero_le, List.length_cons, List.length_nil, true_and, and_true, true_or, or_true, eq_self, forall_const, true_implies, not_true_eq_false, not_false_eq_true, false_implies, implies_true, false_and, and_false, false_or, or_false, s31, s31_32, upM_setR, setR_setR, tp_1, tp_2, tp_3, tp_4, tp_5, tp_6, tp_7, up_2, up_3, up_4, up_5, up_6, up_7, T1, T2, T3, T4, i10, nI1, hcv, hiv, g2, nIs, c3]
      rw [show s + (i + 1) = s + i + 1 by omega] at key
      by_cases h3 : i < 3
      · refine ⟨fun h => ?_, fun h => absurd h3 h⟩
        rw [vN, if_pos h3] at key
        rw [bt_fig hl, m10 _ (vN_b B s i hj).2, nIk]
        exact key
      · refine ⟨fun h => absurd h h3, fun _ => ?_⟩
        rw [vN, if_neg h3] at key
        exact key
theorem t_advanceNumber {K : Cx} {d T s k : Nat} {σ : Sg} {m : Mm} {l : Ml} {B : Nat → Nat} {f : Nat → Int32} {fl pl t n : Int32} {Q : Rt} (hw : wfT σ) (hb : tpH m B T) (hT : f 1 = nI T) (hk : s + k = T) (hQ : ∀ e, e = wrN B 2 k s → Q 0 σ (setR m 31 (tp f fl pl (nI e) (nI s) (if e - s ≤ 3 then 2 else 0) (nI (vN B s (e - s))))) l) : CT K (d + 2) YX3_advanceNumber [.ref 31] σ (setR m 31 (tp f fl pl (nI s) (nI s) t n)) l Q := by
  refine kX3_advanceNumber ?_
  have := l_adn (K := K) (d := d) (s := s) (t := t) (fl := fl) (pl := pl) (l := l) (Q := Q) hw hb hT k 0 (by omega) (fun j hj => by omega) hQ
  obtain ⟨T1, T2, T3, T4⟩ := hw
  simp only [xX3_advanceNumber_0, xX3_advanceNumber_1, xX3_advanceNumber_2, Bool.false_eq_true, if_true, if_false, kl_i, kl_a, kl_s, kl_u, kl_l, okS_nil, okS_cons, cat_i, cat_a, cat_s, cat_l, Nat.reduceAdd, Nat.reduceLeDiff, Nat.reduceSub, Nat.sub_zero, Nat.sub_self, Nat.zero_add, Nat.le_refl, Nat.zero_le, List.length_cons, List.length_nil, true_and, and_true, true_or, or_true, eq_self, forall_const, true_implies, not_true_eq_false, not_false_eq_true, false_implies, implies_true, false_and, and_false, false_or, or_false, s31, s31_32, upM_setR, setR_setR, tp_1, tp_2, tp_3, tp_4, tp_5, tp_6, tp_7, up_2, up_3, up_4, up_5, up_6, up_7, T1, T2, T3, T4]
  exact this
/-- where the token that is next from a begins, where it ends, what it is (0 none, 1 a name, 2 a number, 3 a sign, 4 nothing known) -/
def lxS (B : Nat → Nat) (T a : Nat) : Nat := skN B (T - a) a
def lxK (B : Nat → Nat) (T a : Nat) : Nat := if lxS B T a < T then srN (B (lxS B T a)) else 0
def lxE (B : Nat → Nat) (T a : Nat) : Nat := if lxK B T a = 0 then lxS B T a else if lxK B T a < 3 then wrN B (lxK B T a) (T - lxS B T a) (lxS B T a) else lxS B T a + 1
def lxT (B : Nat → Nat) (T a : Nat) : Nat := if lxK B T a = 2 ∧ 3 < lxE B T a - lxS B T a then 4 else lxK B T a
def lxV (B : Nat → Nat) (T a : Nat) : Nat := vN B (lxS B T a) (lxE B T a - lxS B T a)
def tkC (t : Nat) : Int32 := if t = 0 then 4 else if t = 1 then 1 else if t = 2 then 2 else if t = 3 then 3 else 0
theorem lx_b {B : Nat → Nat} {T a : Nat} (h : a ≤ T) : a ≤ lxS B T a ∧ lxS B T a ≤ T ∧ lxS B T a ≤ lxE B T a ∧ lxE B T a ≤ T := by
  have h1 := skN_le B (T - a) a
  have e : skN B (T - a) a = lxS B T a := rfl
  rw [e] at h1
  refine ⟨h1.1, by omega, ?_⟩
  unfold lxE
  by_cases h0 : lxK B T a = 0
  · rw [if_pos h0]; exact ⟨Nat.le_refl _, by omega⟩
  · have h2 : lxS B T a < T := by
      unfold lxK at h0
      by_cases h3 : lxS B T a < T
      · exact h3
      · rw [if_neg h3] at h0; exact absurd rfl h0
    rw [if_neg h0]
    have h4 := wrN_le B (lxK B T a) (T - lxS B T a) (lxS B T a)
    split <;> omega
theorem sr4 (n : Nat) (h1 : isL n = false) (h2 : isF n = false) : srN n = if n = 59 then 3 else 4 := by
  unfold srN
  rw [h1, h2]
  rfl
theorem t_advance {K : Cx} {d T a : Nat} {σ : Sg} {m : Mm} {l : Ml} {B : Nat → Nat} {f : Nat → Int32} {fl pl s t n : Int32} {Q : Rt} (hw : wfT σ) (hb : tpH m B T) (hT : f 1 = nI T) (ha : a ≤ T) (hQ : ∀ x, (lxT B T a = 2 → x = nI (lxV B T a)) → Q 0 σ (setR m 31 (tp f fl pl (nI (lxE B T a)) (nI (lxS B T a)) (tkC (lxT B T a)) x)) l) : CT K (d + 3) YX3_advance [.ref 31] σ (setR m 31 (tp f fl pl (nI a) s t n)) l Q := by
  refine kX3_advance ?_
  refine l_adv0 hw hb hT (T - a) a (by omega) ?_
  have hs : skN B (T - a) a = lxS B T a := rfl
  rw [hs]
  have hle := lx_b (B := B) ha
  have hw0 := hw
  have hb0 := hb
  obtain ⟨T1, T2, T3, T4⟩ := hw
  obtain ⟨h400, hb⟩ := hb
  have c1 : (nI (lxS B T a) < nI T) = (lxS B T a < T) := ltN (by omega) (by omega)
  simp only [xX3_advance_0, xX3_advance_1, xX3_advance_4, xX3_advance_5, xX3_advance_8, xX3_advance_11, xX3_advance_12, xX3_advance_15, xX3_advance_16, xX3_advance_19, xX3_advance_20, xX3_advance_22, xX3_advance_25, xX3_advance_26, xX3_advance_29, xX3_advance_30, xX3_advance_33, xX3_advance_34, xX3_advance_36, xX3_advance_39, xX3_advance_40, xX3_advance_41, xX3_advance_44, xX3_advance_45, xX3_advance_46, xX3_advance_49, xX3_advance_52, xX3_advance_53, xX3_advance_54, xX3_advance_57, xX3_advance_60, xX3_advance_61, xX3_advance_64, xX3_advance_65, xX3_advance_68, xX3_advance_71, xX3_advance_72, xX3_advance_73, xX3_advance_76, xX3_advance_79, xX3_advance_80, xX3_advance_83, xX3_advance_84, xX3_advance_87, xX3_advance_88, xX3_advance_91, xX3_advance_94, xX3_advance_95, xX3_advance_96, xX3_advance_100, xX3_advance_103, xX3_advance_104, xX3_advance_107, xX3_advance_110, xX3_advance_111, xX3_advance_114, xX3_advance_115, xX3_advance_118, xX3_advance_119, xX3_advance_122, xX3_advance_125, xX3_advance_126, xX3_advance_127, xX3_advance_130, xX3_advance_131, xX3_advance_132, xX3_advance_135, xX3_advance_138, xX3_advance_139, xX3_advance_142, xX3_advance_143, xX3_advance_146, xX3_advance_147, xX3_advance_150, xX3_advance_153, xX3_advance_154, xX3_advance_157, xX3_advance_160, xX3_advance_161, xX3_advance_162, xX3_advance_165, xX3_advance_166, xX3_advance_169, xX3_advance_170, xX3_advance_172, xX3_advance_175, xX3_advance_176, xX3_advance_179, xX3_advance_180, xX3_advance_183, xX3_advance_184, xX3_advance_185, xX3_advance_188, xX3_advance_189, xX3_advance_190, xX3_advance_193, Bool.false_eq_true, if_true, if_false, kl_i, kl_a, kl_s, kl_u, kl_l, okS_nil, okS_cons, cat_i, cat_a, cat_s, cat_l, Nat.reduceAdd, Nat.reduceLeDiff, Nat.reduceSub, Nat.sub_zero, Nat.sub_self, Nat.zero_add, Nat.le_refl, Nat.zero_le, List.length_cons, List.length_nil, true_and, and_true, true_or, or_true, eq_self, forall_const, true_implies, not_true_eq_false, not_false_eq_true, false_implies, implies_true, false_and, and_false, false_or, or_false, s31, s31_32, upM_setR, setR_setR, tp_1, tp_2, tp_3, tp_4, tp_5, tp_6, tp_7, up_2, up_3, up_4, up_5, up_6, up_7, T1, T2, T3, T4, hT, c1]
  by_cases hS : lxS B T a < T
  · refine ⟨fun _ => ?_, fun h => absurd hS h⟩
    obtain ⟨g1, g2⟩ := hb _ hS
    have hcv := clN (v := lxS B T a) (by omega)
    have hiv := inN (v := lxS B T a) (n := 400) (by omega) (by omega)
    have eK : lxK B T a = srN (B (lxS B T a)) := if_pos hS
    simp only [hcv, hiv, g2, Bool.false_eq_true, if_true, if_false, kl_i, kl_a, kl_s, kl_u, kl_l, okS_nil, okS_cons, cat_i, cat_a, cat_s, cat_l, Nat.reduceAdd, Nat.reduceLeDiff, Nat.reduceSub, Nat.sub_zero, Nat.sub_self, Nat.zero_add, Nat.le_refl, Nat.zero_le, List.length_cons, List.length_nil, true_and, and_true, true_or, or_true, eq_self, forall_const, true_implies, not_true_eq_false, not_false_eq_true, false_implies, implies_true, false_and, and_false, false_or, or_false]
    refine t_isLetter g1 ?_
    cases hl : isL (B (lxS B T a))
    · simp only [xX3_advance_0, xX3_advance_1, xX3_advance_4, xX3_advance_5, xX3_advance_8, xX3_advance_11, xX3_advance_12, xX3_advance_15, xX3_advance_16, xX3_advance_19, xX3_advance_20, xX3_advance_22, xX3_advance_25, xX3_advance_26, xX3_advance_29, xX3_advance_30, xX3_advance_33, xX3_advance_34, xX3_advance_36, xX3_advance_39, xX3_advance_40, xX3_advance_41, xX3_advance_44, xX3_advance_45, xX3_advance_46, xX3_advance_49, xX3_advance_52, xX3_advance_53, xX3_advance_54, xX3_advance_57, xX3_advance_60, xX3_advance_61, xX3_advance_64, xX3_advance_65, xX3_advance_68, xX3_advance_71, xX3_advance_72, xX3_advance_73, xX3_advance_76, xX3_advance_79, xX3_advance_80, xX3_advance_83, xX3_advance_84, xX3_advance_87, xX3_advance_88, xX3_advance_91, xX3_advance_94, xX3_advance_95, xX3_advance_96, xX3_advance_100, xX3_advance_103, xX3_advance_104, xX3_advance_107, xX3_advance_110, xX3_advance_111, xX3_advance_114, xX3_advance_115, xX3_advance_118, xX3_advance_119, xX3_advance_122, xX3_advance_125, xX3_advance_126, xX3_advance_127, xX3_advance_130, xX3_advance_131, xX3_advance_132, xX3_advance_135, xX3_advance_138, xX3_advance_139, xX3_advance_142, xX3_advance_143, xX3_advance_146, xX3_advance_147, xX3_advance_150, xX3_advance_153, xX3_advance_154, xX3_advance_157, xX3_advance_160, xX3_advance_161, xX3_advance_162, xX3_advance_165, xX3_advance_166, xX3_advance_169, xX3_advance_170, xX3_advance_172, xX3_advance_175, xX3_advance_176, xX3_advance_179, xX3_advance_180, xX3_advance_183, xX3_advance_184, xX3_advance_185, xX3_advance_188, xX3_advance_189, xX3_advance_190, xX3_advance_193, Bool.false_eq_true, if_true, if_false, kl_i, kl_a, kl_s, kl_u, kl_l, okS_nil, okS_cons, cat_i, cat_a, cat_s, cat_l, Nat.reduceAdd, Nat.reduceLeDiff, Nat.reduceSub, Nat.sub_zero, Nat.sub_self, Nat.zero_add, Nat.le_refl, Nat.zero_le, List.length_cons, List.length_nil, true_and, and_true, true_or, or_true, eq_self, forall_const, true_implies, not_true_eq_false, not_false_eq_true, false_implies, implies_true, false_and, and_false, false_or, or_false, s31, s31_32, upM_setR, setR_setR, tp_1, tp_2, tp_3, tp_4, tp_5, tp_6, tp_7, up_2, up_3, up_4, up_5, up_6, up_7, T1, T2, T3, T4, hcv, hiv, g2]
      refine t_isFigure g1 ?_
      cases hf : isF (B (lxS B T a))
      · rw [sr4 _ hl hf] at eK
        simp only [xX3_advance_0, xX3_advance_1, xX3_advance_4, xX3_advance_5, xX3_advance_8, xX3_advance_11, xX3_advance_12, xX3_advance_15, xX3_advance_16, xX3_advance_19, xX3_advance_20, xX3_advance_22, xX3_advance_25, xX3_advance_26, xX3_advance_29, xX3_advance_30, xX3_advance_33, xX3_advance_34, xX3_advance_36, xX3_advance_39, xX3_advance_40, xX3_advance_41, xX3_advance_44, xX3_advance_45, xX3_advance_46, xX3_advance_49, xX3_advance_52, xX3_advance_53, xX3_advance_54, xX3_advance_57, xX3_advance_60, xX3_advance_61, xX3_advance_64, xX3_advance_65, xX3_advance_68, xX3_advance_71, xX3_advance_72, xX3_advance_73, xX3_advance_76, xX3_advance_79, xX3_advance_80, xX3_advance_83, xX3_advance_84, xX3_advance_87, xX3_advance_88, xX3_advance_91, xX3_advance_94, xX3_advance_95, xX3_advance_96, xX3_advance_100, xX3_advance_103, xX3_advance_104, xX3_advance_107, xX3_advance_110, xX3_advance_111, xX3_advance_114, xX3_advance_115, xX3_advance_118, xX3_advance_119, xX3_advance_122, xX3_advance_125, xX3_advance_126, xX3_advance_127, xX3_advance_130, xX3_advance_131, xX3_advance_132, xX3_advance_135, xX3_advance_138, xX3_advance_139, xX3_advance_142, xX3_advance_143, xX3_advance_146, xX3_advance_147, xX3_advance_150, xX3_advance_153, xX3_advance_154, xX3_advance_157, xX3_advance_160, xX3_advance_161, xX3_advance_162, xX3_advance_165, xX3_advance_166, xX3_advance_169, xX3_advance_170, xX3_advance_172, xX3_advance_175, xX3_advance_176, xX3_advance_179, xX3_advance_180, xX3_advance_183, xX3_advance_184, xX3_advance_185, xX3_advance_188, xX3_advance_189, xX3_advance_190, xX3_advance_193, Bool.false_eq_true, if_true, if_false, kl_i, kl_a, kl_s, kl_u, kl_l, okS_nil, okS_cons, cat_i, cat_a, cat_s, cat_l, Nat.reduceAdd, Nat.reduceLeDiff, Nat.reduceSub, Nat.sub_zero, Nat.sub_self, Nat.zero_add, Nat.le_refl, Nat.zero_le, List.length_cons, List.length_nil, true_and, and_true, true_or, or_true, eq_self, forall_const, true_implies, not_true_eq_false, not_false_eq_true, false_implies, implies_true, false_and, and_false, false_or, or_false, s31, s31_32, upM_setR, setR_setR, tp_1, tp_2, tp_3, tp_4, tp_5, tp_6, tp_7, up_2, up_3, up_4, up_5, up_6, up_7, T1, T2, T3, T4, hcv, hiv, g2, bt_59 g1, nI1]
        by_cases h59 : B (lxS B T a) = 59
        · rw [if_pos h59] at eK
          have eE : lxE B T a = lxS B T a + 1 := by unfold lxE; rw [eK]; rfl
          have eT : lxT B T a = 3 := by unfold lxT; rw [eK]; rfl
          have q := hQ n (fun h => by rw [eT] at h; cases h)
          rw [eE, eT] at q
          exact ⟨fun _ => q, fun h => absurd h59 h⟩
        · rw [if_neg h59] at eK
          have eE : lxE B T a = lxS B T a + 1 := by unfold lxE; rw [eK]; rfl
          have eT : lxT B T a = 4 := by unfold lxT; rw [eK]; rfl
          have q := hQ n (fun h => by rw [eT] at h; cases h)
          rw [eE, eT] at q
          exact ⟨fun h => absurd h h59, fun _ => q⟩
      · rw [srF.mpr hf] at eK
        have eE : lxE B T a = wrN B 2 (T - lxS B T a) (lxS B T a) := by unfold lxE; rw [eK]; rfl
        simp only [xX3_advance_0, xX3_advance_1, xX3_advance_4, xX3_advance_5, xX3_advance_8, xX3_advance_11, xX3_advance_12, xX3_advance_15, xX3_advance_16, xX3_advance_19, xX3_advance_20, xX3_advance_22, xX3_advance_25, xX3_advance_26, xX3_advance_29, xX3_advance_30, xX3_advance_33, xX3_advance_34, xX3_advance_36, xX3_advance_39, xX3_advance_40, xX3_advance_41, xX3_advance_44, xX3_advance_45, xX3_advance_46, xX3_advance_49, xX3_advance_52, xX3_advance_53, xX3_advance_54, xX3_advance_57, xX3_advance_60, xX3_advance_61, xX3_advance_64, xX3_advance_65, xX3_advance_68, xX3_advance_71, xX3_advance_72, xX3_advance_73, xX3_advance_76, xX3_advance_79, xX3_advance_80, xX3_advance_83, xX3_advance_84, xX3_advance_87, xX3_advance_88, xX3_advance_91, xX3_advance_94, xX3_advance_95, xX3_advance_96, xX3_advance_100, xX3_advance_103, xX3_advance_104, xX3_advance_107, xX3_advance_110, xX3_advance_111, xX3_advance_114, xX3_advance_115, xX3_advance_118, xX3_advance_119, xX3_advance_122, xX3_advance_125, xX3_advance_126, xX3_advance_127, xX3_advance_130, xX3_advance_131, xX3_advance_132, xX3_advance_135, xX3_advance_138, xX3_advance_139, xX3_advance_142, xX3_advance_143, xX3_advance_146, xX3_advance_147, xX3_advance_150, xX3_advance_153, xX3_advance_154, xX3_advance_157, xX3_advance_160, xX3_advance_161, xX3_advance_162, xX3_advance_165, xX3_advance_166, xX3_advance_169, xX3_advance_170, xX3_advance_172, xX3_advance_175, xX3_advance_176, xX3_advance_179, xX3_advance_180, xX3_advance_183, xX3_advance_184, xX3_advance_185, xX3_advance_188, xX3_advance_189, xX3_advance_190, xX3_advance_193, Bool.false_eq_true, if_true, if_false, kl_i, kl_a, kl_s, kl_u, kl_l, okS_nil, okS_cons, cat_i, cat_a, cat_s, cat_l, Nat.reduceAdd, Nat.reduceLeDiff, Nat.reduceSub, Nat.sub_zero, Nat.sub_self, Nat.zero_add, Nat.le_refl, Nat.zero_le, List.length_cons, List.length_nil, true_and, and_true, true_or, or_true, eq_self, forall_const, true_implies, not_true_eq_false, not_false_eq_true, false_implies, implies_true, false_and, and_false, false_or, or_false, s31, s31_32, upM_setR, setR_setR, tp_1, tp_2, tp_3, tp_4, tp_5, tp_6, tp_7, up_2, up_3, up_4, up_5, up_6, up_7, T1, T2, T3, T4, i10]
        refine t_advanceNumber (k := T - lxS B T a) hw0 hb0 hT (by omega) (fun e he => ?_)
        rw [← eE] at he
        subst he
        have q := hQ (nI (lxV B T a)) (fun _ => rfl)
        have eT : tkC (lxT B T a) = if lxE B T a - lxS B T a ≤ 3 then 2 else 0 := by
          unfold lxT
          rw [eK]
          by_cases h3 : lxE B T a - lxS B T a ≤ 3
          · rw [if_pos h3, if_neg (by omega)]; rfl
          · rw [if_neg h3, if_pos (by omega)]; rfl
        rw [eT] at q
        exact q
    · rw [srL.mpr hl] at eK
      have eE : lxE B T a = wrN B 1 (T - lxS B T a) (lxS B T a) := by unfold lxE; rw [eK]; rfl
      have eT : lxT B T a = 1 := by unfold lxT; rw [eK]; rfl
      simp only [xX3_advance_0, xX3_advance_1, xX3_advance_4, xX3_advance_5, xX3_advance_8, xX3_advance_11, xX3_advance_12, xX3_advance_15, xX3_advance_16, xX3_advance_19, xX3_advance_20, xX3_advance_22, xX3_advance_25, xX3_advance_26, xX3_advance_29, xX3_advance_30, xX3_advance_33, xX3_advance_34, xX3_advance_36, xX3_advance_39, xX3_advance_40, xX3_advance_41, xX3_advance_44, xX3_advance_45, xX3_advance_46, xX3_advance_49, xX3_advance_52, xX3_advance_53, xX3_advance_54, xX3_advance_57, xX3_advance_60, xX3_advance_61, xX3_advance_64, xX3_advance_65, xX3_advance_68, xX3_advance_71, xX3_advance_72, xX3_advance_73, xX3_advance_76, xX3_advance_79, xX3_advance_80, xX3_advance_83, xX3_advance_84, xX3_advance_87, xX3_advance_88, xX3_advance_91, xX3_advance_94, xX3_advance_95, xX3_advance_96, xX3_advance_100, xX3_advance_103, xX3_advance_104, xX3_advance_107, xX3_advance_110, xX3_advance_111, xX3_advance_114, xX3_advance_115, xX3_advance_118, xX3_advance_119, xX3_advance_122, xX3_advance_125, xX3_advance_126, xX3_advance_127, xX3_advance_130, xX3_advance_131, xX3_advance_132, xX3_advance_135, xX3_advance_138, xX3_advance_139, xX3_advance_142, xX3_advance_143, xX3_advance_146, xX3_advance_147, xX3_advance_150, xX3_advance_153, xX3_advance_154, xX3_advance_157, xX3_advance_160, xX3_advance_161, xX3_advance_162, xX3_advance_165, xX3_advance_166, xX3_advance_169, xX3_advance_170, xX3_advance_172, xX3_advance_175, xX3_advance_176, xX3_advance_179, xX3_advance_180, xX3_advance_183, xX3_advance_184, xX3_advance_185, xX3_advance_188, xX3_advance_189, xX3_advance_190, xX3_advance_193, Bool.false_eq_true, if_true, if_false, kl_i, kl_a, kl_s, kl_u, kl_l, okS_nil, okS_cons, cat_i, cat_a, cat_s, cat_l, Nat.reduceAdd, Nat.reduceLeDiff, Nat.reduceSub, Nat.sub_zero, Nat.sub_self, Nat.zero_add, Nat.le_refl, Nat.zero_le, List.length_cons, List.length_nil, true_and, and_true, true_or, or_true, eq_self, forall_const, true_implies, not_true_eq_false, not_false_eq_true, false_implies, implies_true, false_and, and_false, false_or, or_false, s31, s31_32, upM_setR, setR_setR, tp_1, tp_2, tp_3, tp_4, tp_5, tp_6, tp_7, up_2, up_3, up_4, up_5, up_6, up_7, T1, T2, T3, T4, i10]
      refine l_adv1 hw0 hb0 hT (T - lxS B T a) _ (by omega) ?_
      have q := hQ n (fun h => by rw [eT] at h; cases h)
      rw [eE, eT] at q
      exact q
  · refine ⟨fun h => absurd h hS, fun _ => ?_⟩
    have eK : lxK B T a = 0 := if_neg hS
    have eE : lxE B T a = lxS B T a := by unfold lxE; rw [eK]; rfl
    have eT : lxT B T a = 0 := by unfold lxT; rw [eK]; rfl
    have q := hQ n (fun h => by rw [eT] at h; cases h)
    rw [eE, eT] at q
    exact q
