/-! reading, step by step: (fault, place, at); the class's side -/
theorem wrN_f (B : Nat → Nat) (s : Nat) : ∀ k a j, a ≤ j → j < wrN B s k a → srN (B j) = s := by
  intro k
  induction k with
  | zero => intro a j h1 h2; rw [wrN] at h2; omega
  | succ k ih =>
    intro a j h1 h2
    rw [wrN] at h2
    by_cases h : srN (B a) = s
    · rw [if_pos h] at h2
      by_cases e : j = a
      · rw [e]; exact h
      · exact ih (a + 1) j (by omega) h2
    · rw [if_neg h] at h2; omega
theorem lxV_b {B : Nat → Nat} {T a : Nat} (h : lxT B T a = 2) : lxK B T a = 2 ∧ lxE B T a - lxS B T a ≤ 3 ∧ lxV B T a < 1000 := by
  have hk : lxK B T a = 2 := by
    unfold lxT at h
    split at h
    · cases h
    · exact h
  have he : lxE B T a = wrN B 2 (T - lxS B T a) (lxS B T a) := by unfold lxE; rw [hk]; rfl
  refine ⟨hk, ?_, ?_⟩
  · unfold lxT at h
    rw [hk] at h
    by_cases h3 : 3 < lxE B T a - lxS B T a
    · rw [if_pos ⟨rfl, h3⟩] at h; cases h
    · omega
  · refine (vN_b B _ _ (fun j hj => ?_)).2
    have := wrN_f B 2 (T - lxS B T a) (lxS B T a) (lxS B T a + j) (by omega) (by omega)
    rw [srF] at this
    exact this
abbrev S3 : Type := Nat × Nat × Nat
/-- the next token spells the word i -/
def ltk (B : Nat → Nat) (T a i : Nat) : Bool := decide (lxT B T a = 1) && spW B (lxS B T a) (lxE B T a) i
def bad (B : Nat → Nat) (T x a : Nat) : S3 := (x, lxS B T a, lxE B T a)
def stW (B : Nat → Nat) (T i : Nat) (s : S3) : S3 := if s.1 = 0 then (if ltk B T s.2.2 i then (0, s.2.1, lxE B T s.2.2) else bad B T 1 s.2.2) else s
def stS (B : Nat → Nat) (T : Nat) (s : S3) : S3 := if s.1 = 0 then (if lxT B T s.2.2 = 3 then (0, s.2.1, lxE B T s.2.2) else bad B T 1 s.2.2) else s
def stN (B : Nat → Nat) (T lo hi : Nat) (s : S3) : Nat × S3 := if s.1 = 0 then (if lxT B T s.2.2 = 2 then (if lxV B T s.2.2 < lo ∨ hi < lxV B T s.2.2 then (0, bad B T 2 s.2.2) else (lxV B T s.2.2, 0, s.2.1, lxE B T s.2.2)) else (0, bad B T 1 s.2.2)) else (0, s)
def kdN (B : Nat → Nat) (T a : Nat) : Nat := if ltk B T a 2 then 1 else if ltk B T a 3 then 2 else if ltk B T a 4 then 3 else if ltk B T a 5 then 4 else if ltk B T a 6 then 5 else 0
def stK (B : Nat → Nat) (T : Nat) (s : S3) : Nat × S3 := if s.1 = 0 then (if kdN B T s.2.2 = 0 then (0, bad B T 1 s.2.2) else (kdN B T s.2.2, 0, s.2.1, lxE B T s.2.2)) else (0, s)
/-- a state that can be: at within the tape, a small fault -/
def okS3 (T : Nat) (s : S3) : Prop := s.1 < 4 ∧ s.2.2 ≤ T
theorem bad_ok {B : Nat → Nat} {T x a : Nat} (hx : x < 4) (ha : a ≤ T) : okS3 T (bad B T x a) := ⟨hx, (lx_b ha).2.2.2⟩
theorem stW_ok {B : Nat → Nat} {T i : Nat} {s : S3} (h : okS3 T s) : okS3 T (stW B T i s) := by
  unfold stW
  split
  · split
    · exact ⟨by show 0 < 4; omega, (lx_b h.2).2.2.2⟩
    · exact bad_ok (by omega) h.2
  · exact h
theorem stS_ok {B : Nat → Nat} {T : Nat} {s : S3} (h : okS3 T s) : okS3 T (stS B T s) := by
  unfold stS
  split
  · split
    · exact ⟨by show 0 < 4; omega, (lx_b h.2).2.2.2⟩
    · exact bad_ok (by omega) h.2
  · exact h
theorem stN_ok {B : Nat → Nat} {T lo hi : Nat} {s : S3} (h : okS3 T s) : okS3 T (stN B T lo hi s).2 := by
  unfold stN
  split
  · split
    · split
      · exact bad_ok (by omega) h.2
      · exact ⟨by show 0 < 4; omega, (lx_b h.2).2.2.2⟩
    · exact bad_ok (by omega) h.2
  · exact h
theorem stK_ok {B : Nat → Nat} {T : Nat} {s : S3} (h : okS3 T s) : okS3 T (stK B T s).2 := by
  unfold stK
  split
  · split
    · exact bad_ok (by omega) h.2
    · exact ⟨by show 0 < 4; omega, (lx_b h.2).2.2.2⟩
  · exact h
/-- the tape in a state -/
def TS (m : Mm) (f : Nat → Int32) (s : S3) (x y z : Int32) : Mm := setR m 31 (tp f (nI s.1) (nI s.2.1) (nI s.2.2) x y z)
theorem tk1 {t : Nat} : (tkC t = 1) = (t = 1) := by
  refine propext ⟨fun h => ?_, fun h => by subst h; rfl⟩
  unfold tkC at h
  by_cases h0 : t = 0
  · rw [if_pos h0] at h; exact absurd h (by decide)
  by_cases h1 : t = 1
  · exact h1
  by_cases h2 : t = 2
  · rw [if_neg h0, if_neg h1, if_pos h2] at h; exact absurd h (by decide)
  by_cases h3 : t = 3
  · rw [if_neg h0, if_neg h1, if_neg h2, if_pos h3] at h; exact absurd h (by decide)
  · rw [if_neg h0, if_neg h1, if_neg h2, if_neg h3] at h; exact absurd h (by decide)
theorem tk2 {t : Nat} : (tkC t = 2) = (t = 2) := by
  refine propext ⟨fun h => ?_, fun h => by subst h; rfl⟩
  unfold tkC at h
  by_cases h0 : t = 0
  · rw [if_pos h0] at h; exact absurd h (by decide)
  by_cases h1 : t = 1
  · rw [if_neg h0, if_pos h1] at h; exact absurd h (by decide)
  by_cases h2 : t = 2
  · exact h2
  by_cases h3 : t = 3
  · rw [if_neg h0, if_neg h1, if_neg h2, if_pos h3] at h; exact absurd h (by decide)
  · rw [if_neg h0, if_neg h1, if_neg h2, if_neg h3] at h; exact absurd h (by decide)
theorem tk3 {t : Nat} : (tkC t = 3) = (t = 3) := by
  refine propext ⟨fun h => ?_, fun h => by subst h; rfl⟩
  unfold tkC at h
  by_cases h0 : t = 0
  · rw [if_pos h0] at h; exact absurd h (by decide)
  by_cases h1 : t = 1
  · rw [if_neg h0, if_pos h1] at h; exact absurd h (by decide)
  by_cases h2 : t = 2
  · rw [if_neg h0, if_neg h1, if_pos h2] at h; exact absurd h (by decide)
  by_cases h3 : t = 3
  · exact h3
  · rw [if_neg h0, if_neg h1, if_neg h2, if_neg h3] at h; exact absurd h (by decide)
theorem tk4 {t : Nat} : (tkC t = 4) = (t = 0) := by
  refine propext ⟨fun h => ?_, fun h => by subst h; rfl⟩
  unfold tkC at h
  by_cases h0 : t = 0
  · exact h0
  by_cases h1 : t = 1
  · rw [if_neg h0, if_pos h1] at h; exact absurd h (by decide)
  by_cases h2 : t = 2
  · rw [if_neg h0, if_neg h1, if_pos h2] at h; exact absurd h (by decide)
  by_cases h3 : t = 3
  · rw [if_neg h0, if_neg h1, if_neg h2, if_pos h3] at h; exact absurd h (by decide)
  · rw [if_neg h0, if_neg h1, if_neg h2, if_neg h3] at h; exact absurd h (by decide)
theorem f0 {x : Nat} (h : x < 4) : (nI x = 0) = (x = 0) := eqN (a := x) (b := 0) (by omega) (by omega)
theorem t_blame {K : Cx} {d : Nat} {σ : Sg} {m : Mm} {l : Ml} {f : Nat → Int32} {fl pl a s t n x : Int32} {Q : Rt} (hw : wfT σ) (hQ : Q 0 σ (setR m 31 (tp f x s a s t n)) l) : CT K (d + 1) YX3_blame [.ref 31, .int x] σ (setR m 31 (tp f fl pl a s t n)) l Q := by
  obtain ⟨T1, T2, T3, T4⟩ := hw
  refine kX3_blame ?_
  simp only [xX3_blame_0, xX3_blame_1, xX3_blame_2, xX3_blame_5, xX3_blame_6, xX3_blame_7, xX3_blame_10, xX3_blame_13, Bool.false_eq_true, if_true, if_false, kl_i, kl_a, kl_s, kl_u, kl_l, okS_nil, okS_cons, cat_i, cat_a, cat_s, cat_l, Nat.reduceAdd, Nat.reduceLeDiff, Nat.reduceSub, Nat.sub_zero, Nat.sub_self, Nat.zero_add, Nat.le_refl, Nat.zero_le, List.length_cons, List.length_nil, true_and, and_true, true_or, or_true, eq_self, forall_const, true_implies, not_true_eq_false, not_false_eq_true, false_implies, implies_true, false_and, and_false, false_or, or_false, s31, s31_32, upM_setR, setR_setR, tp_1, tp_2, tp_3, tp_4, tp_5, tp_6, tp_7, up_2, up_3, up_4, up_5, up_6, up_7, T1, T2, T3, T4]
  exact hQ
theorem t_readWord {K : Cx} {d T i : Nat} {σ : Sg} {m : Mm} {l : Ml} {B : Nat → Nat} {f : Nat → Int32} {s : S3} {x y z : Int32} {Q : Rt} (hw : wfT σ) (hb : tpH m B T) (hT : f 1 = nI T) (hi : i < 7) (hs : okS3 T s) (hQ : ∀ x y z, Q 0 σ (TS m f (stW B T i s) x y z) l) : CT K (d + 6) YX3_readWord [.ref 31, .retAddr i] σ (TS m f s x y z) l Q := by
  have hw0 := hw
  obtain ⟨T1, T2, T3, T4⟩ := hw
  have hlx := lx_b (B := B) hs.2
  refine kX3_readWord ?_
  unfold TS at hQ ⊢
  unfold stW at hQ
  simp only [xX3_readWord_0, xX3_readWord_1, xX3_readWord_4, xX3_readWord_7, xX3_readWord_8, xX3_readWord_11, xX3_readWord_12, xX3_readWord_13, xX3_readWord_16, xX3_readWord_19, xX3_readWord_20, xX3_readWord_21, xX3_readWord_24, Bool.false_eq_true, if_true, if_false, kl_i, kl_a, kl_s, kl_u, kl_l, okS_nil, okS_cons, cat_i, cat_a, cat_s, cat_l, Nat.reduceAdd, Nat.reduceLeDiff, Nat.reduceSub, Nat.sub_zero, Nat.sub_self, Nat.zero_add, Nat.le_refl, Nat.zero_le, List.length_cons, List.length_nil, true_and, and_true, true_or, or_true, eq_self, forall_const, true_implies, not_true_eq_false, not_false_eq_true, false_implies, implies_true, false_and, and_false, false_or, or_false, s31, s31_32, upM_setR, setR_setR, tp_1, tp_2, tp_3, tp_4, tp_5, tp_6, tp_7, up_2, up_3, up_4, up_5, up_6, up_7, T1, T2, T3, T4, f0 hs.1]
  by_cases h0 : s.1 = 0
  · rw [if_pos h0] at hQ
    refine ⟨fun _ => ?_, fun h => absurd h0 h⟩
    refine t_advance hw0 hb hT hs.2 (fun n' hn' => ?_)
    simp only [xX3_readWord_0, xX3_readWord_1, xX3_readWord_4, xX3_readWord_7, xX3_readWord_8, xX3_readWord_11, xX3_readWord_12, xX3_readWord_13, xX3_readWord_16, xX3_readWord_19, xX3_readWord_20, xX3_readWord_21, xX3_readWord_24, Bool.false_eq_true, if_true, if_false, kl_i, kl_a, kl_s, kl_u, kl_l, okS_nil, okS_cons, cat_i, cat_a, cat_s, cat_l, Nat.reduceAdd, Nat.reduceLeDiff, Nat.reduceSub, Nat.sub_zero, Nat.sub_self, Nat.zero_add, Nat.le_refl, Nat.zero_le, List.length_cons, List.length_nil, true_and, and_true, true_or, or_true, eq_self, forall_const, true_implies, not_true_eq_false, not_false_eq_true, false_implies, implies_true, false_and, and_false, false_or, or_false, s31, s31_32, upM_setR, setR_setR, tp_1, tp_2, tp_3, tp_4, tp_5, tp_6, tp_7, up_2, up_3, up_4, up_5, up_6, up_7, T1, T2, T3, T4]
    refine t_spells hw0 hb hi hlx.2.2.1 hlx.2.2.2 ?_
    unfold ltk at hQ
    by_cases h1 : lxT B T s.2.2 = 1 ∧ spW B (lxS B T s.2.2) (lxE B T s.2.2) i = true
    · have e : (decide (lxT B T s.2.2 = 1) && spW B (lxS B T s.2.2) (lxE B T s.2.2) i) = true := by rw [h1.2, decide_eq_true h1.1]; rfl
      rw [e, if_pos rfl] at hQ
      rw [if_pos ⟨tk1.mpr h1.1, h1.2⟩]
      simp only [xX3_readWord_0, xX3_readWord_1, xX3_readWord_4, xX3_readWord_7, xX3_readWord_8, xX3_readWord_11, xX3_readWord_12, xX3_readWord_13, xX3_readWord_16, xX3_readWord_19, xX3_readWord_20, xX3_readWord_21, xX3_readWord_24, Bool.false_eq_true, if_true, if_false, kl_i, kl_a, kl_s, kl_u, kl_l, okS_nil, okS_cons, cat_i, cat_a, cat_s, cat_l, Nat.reduceAdd, Nat.reduceLeDiff, Nat.reduceSub, Nat.sub_zero, Nat.sub_self, Nat.zero_add, Nat.le_refl, Nat.zero_le, List.length_cons, List.length_nil, true_and, and_true, true_or, or_true, eq_self, forall_const, true_implies, not_true_eq_false, not_false_eq_true, false_implies, implies_true, false_and, and_false, false_or, or_false, s31, s31_32, upM_setR, setR_setR, tp_1, tp_2, tp_3, tp_4, tp_5, tp_6, tp_7, up_2, up_3, up_4, up_5, up_6, up_7, T1, T2, T3, T4, i10]
      rw [h0]
      exact hQ _ _ _
    · have e : (decide (lxT B T s.2.2 = 1) && spW B (lxS B T s.2.2) (lxE B T s.2.2) i) = false := by
        cases h : (decide (lxT B T s.2.2 = 1) && spW B (lxS B T s.2.2) (lxE B T s.2.2) i)
        · rfl
        · rw [Bool.and_eq_true] at h
          exact absurd ⟨of_decide_eq_true h.1, h.2⟩ h1
      rw [e, if_neg (by decide)] at hQ
      rw [if_neg (fun h => h1 ⟨tk1.mp h.1, h.2⟩)]
      simp only [xX3_readWord_0, xX3_readWord_1, xX3_readWord_4, xX3_readWord_7, xX3_readWord_8, xX3_readWord_11, xX3_readWord_12, xX3_readWord_13, xX3_readWord_16, xX3_readWord_19, xX3_readWord_20, xX3_readWord_21, xX3_readWord_24, Bool.false_eq_true, if_true, if_false, kl_i, kl_a, kl_s, kl_u, kl_l, okS_nil, okS_cons, cat_i, cat_a, cat_s, cat_l, Nat.reduceAdd, Nat.reduceLeDiff, Nat.reduceSub, Nat.sub_zero, Nat.sub_self, Nat.zero_add, Nat.le_refl, Nat.zero_le, List.length_cons, List.length_nil, true_and, and_true, true_or, or_true, eq_self, forall_const, true_implies, not_true_eq_false, not_false_eq_true, false_implies, implies_true, false_and, and_false, false_or, or_false, s31, s31_32, upM_setR, setR_setR, tp_1, tp_2, tp_3, tp_4, tp_5, tp_6, tp_7, up_2, up_3, up_4, up_5, up_6, up_7, T1, T2, T3, T4]
      refine t_blame hw0 ?_
      exact hQ _ _ _
  · rw [if_neg h0] at hQ
    exact ⟨fun h => absurd h h0, fun _ => hQ _ _ _⟩
theorem t_readSign {K : Cx} {d T : Nat} {σ : Sg} {m : Mm} {l : Ml} {B : Nat → Nat} {f : Nat → Int32} {s : S3} {x y z : Int32} {Q : Rt} (hw : wfT σ) (hb : tpH m B T) (hT : f 1 = nI T) (hs : okS3 T s) (hQ : ∀ x y z, Q 0 σ (TS m f (stS B T s) x y z) l) : CT K (d + 6) YX3_readSign [.ref 31] σ (TS m f s x y z) l Q := by
  have hw0 := hw
  obtain ⟨T1, T2, T3, T4⟩ := hw
  refine kX3_readSign ?_
  unfold TS at hQ ⊢
  unfold stS at hQ
  simp only [xX3_readSign_0, xX3_readSign_1, xX3_readSign_4, xX3_readSign_7, xX3_readSign_8, xX3_readSign_11, xX3_readSign_12, xX3_readSign_15, xX3_readSign_16, xX3_readSign_19, xX3_readSign_20, xX3_readSign_21, xX3_readSign_24, Bool.false_eq_true, if_true, if_false, kl_i, kl_a, kl_s, kl_u, kl_l, okS_nil, okS_cons, cat_i, cat_a, cat_s, cat_l, Nat.reduceAdd, Nat.reduceLeDiff, Nat.reduceSub, Nat.sub_zero, Nat.sub_self, Nat.zero_add, Nat.le_refl, Nat.zero_le, List.length_cons, List.length_nil, true_and, and_true, true_or, or_true, eq_self, forall_const, true_implies, not_true_eq_false, not_false_eq_true, false_implies, implies_true, false_and, and_false, false_or, or_false, s31, s31_32, upM_setR, setR_setR, tp_1, tp_2, tp_3, tp_4, tp_5, tp_6, tp_7, up_2, up_3, up_4, up_5, up_6, up_7, T1, T2, T3, T4, f0 hs.1]
  by_cases h0 : s.1 = 0
  · rw [if_pos h0] at hQ
    refine ⟨fun _ => ?_, fun h => absurd h0 h⟩
    refine t_advance hw0 hb hT hs.2 (fun n' hn' => ?_)
    simp only [xX3_readSign_0, xX3_readSign_1, xX3_readSign_4, xX3_readSign_7, xX3_readSign_8, xX3_readSign_11, xX3_readSign_12, xX3_readSign_15, xX3_readSign_16, xX3_readSign_19, xX3_readSign_20, xX3_readSign_21, xX3_readSign_24, Bool.false_eq_true, if_true, if_false, kl_i, kl_a, kl_s, kl_u, kl_l, okS_nil, okS_cons, cat_i, cat_a, cat_s, cat_l, Nat.reduceAdd, Nat.reduceLeDiff, Nat.reduceSub, Nat.sub_zero, Nat.sub_self, Nat.zero_add, Nat.le_refl, Nat.zero_le, List.length_cons, List.length_nil, true_and, and_true, true_or, or_true, eq_self, forall_const, true_implies, not_true_eq_false, not_false_eq_true, false_implies, implies_true, false_and, and_false, false_or, or_false, s31, s31_32, upM_setR, setR_setR, tp_1, tp_2, tp_3, tp_4, tp_5, tp_6, tp_7, up_2, up_3, up_4, up_5, up_6, up_7, T1, T2, T3, T4, tk3]
    by_cases h1 : lxT B T s.2.2 = 3
    · rw [if_pos h1] at hQ
      refine ⟨fun _ => ?_, fun h => absurd h1 h⟩
      rw [h0]
      exact hQ _ _ _
    · rw [if_neg h1] at hQ
      refine ⟨fun h => absurd h h1, fun _ => ?_⟩
      refine t_blame hw0 ?_
      exact hQ _ _ _
  · rw [if_neg h0] at hQ
    exact ⟨fun h => absurd h h0, fun _ => hQ _ _ _⟩
theorem t_readNumber {K : Cx} {d T lo hi : Nat} {σ : Sg} {m : Mm} {l : Ml} {B : Nat → Nat} {f : Nat → Int32} {s : S3} {x y z : Int32} {Q : Rt} (hw : wfT σ) (hb : tpH m B T) (hT : f 1 = nI T) (hlo : lo < 10000) (hhi : hi < 10000) (hs : okS3 T s) (hQ : ∀ x y z, Q (nI (stN B T lo hi s).1) σ (TS m f (stN B T lo hi s).2 x y z) l) : CT K (d + 6) YX3_readNumber [.ref 31, .int (nI lo), .int (nI hi)] σ (TS m f s x y z) l Q := by
  have hw0 := hw
  obtain ⟨T1, T2, T3, T4⟩ := hw
  refine kX3_readNumber ?_
  unfold TS at hQ ⊢
  unfold stN at hQ
  simp only [xX3_readNumber_0, xX3_readNumber_1, xX3_readNumber_4, xX3_readNumber_7, xX3_readNumber_8, xX3_readNumber_9, xX3_readNumber_10, xX3_readNumber_13, xX3_readNumber_14, xX3_readNumber_17, xX3_readNumber_18, xX3_readNumber_21, xX3_readNumber_22, xX3_readNumber_23, xX3_readNumber_26, xX3_readNumber_27, xX3_readNumber_28, xX3_readNumber_29, xX3_readNumber_32, xX3_readNumber_33, xX3_readNumber_36, xX3_readNumber_37, xX3_readNumber_40, xX3_readNumber_41, xX3_readNumber_44, xX3_readNumber_45, xX3_readNumber_46, xX3_readNumber_49, xX3_readNumber_50, xX3_readNumber_51, xX3_readNumber_52, xX3_readNumber_55, Bool.false_eq_true, if_true, if_false, kl_i, kl_a, kl_s, kl_u, kl_l, okS_nil, okS_cons, cat_i, cat_a, cat_s, cat_l, Nat.reduceAdd, Nat.reduceLeDiff, Nat.reduceSub, Nat.sub_zero, Nat.sub_self, Nat.zero_add, Nat.le_refl, Nat.zero_le, List.length_cons, List.length_nil, true_and, and_true, true_or, or_true, eq_self, forall_const, true_implies, not_true_eq_false, not_false_eq_true, false_implies, implies_true, false_and, and_false, false_or, or_false, s31, s31_32, upM_setR, setR_setR, tp_1, tp_2, tp_3, tp_4, tp_5, tp_6, tp_7, up_2, up_3, up_4, up_5, up_6, up_7, T1, T2, T3, T4, f0 hs.1]
  by_cases h0 : s.1 = 0
  · rw [if_pos h0] at hQ
    refine ⟨fun _ => ?_, fun h => absurd h0 h⟩
    refine t_advance hw0 hb hT hs.2 (fun n' hn' => ?_)
    simp only [xX3_readNumber_0, xX3_readNumber_1, xX3_readNumber_4, xX3_readNumber_7, xX3_readNumber_8, xX3_readNumber_9, xX3_readNumber_10, xX3_readNumber_13, xX3_readNumber_14, xX3_readNumber_17, xX3_readNumber_18, xX3_readNumber_21, xX3_readNumber_22, xX3_readNumber_23, xX3_readNumber_26, xX3_readNumber_27, xX3_readNumber_28, xX3_readNumber_29, xX3_readNumber_32, xX3_readNumber_33, xX3_readNumber_36, xX3_readNumber_37, xX3_readNumber_40, xX3_readNumber_41, xX3_readNumber_44, xX3_readNumber_45, xX3_readNumber_46, xX3_readNumber_49, xX3_readNumber_50, xX3_readNumber_51, xX3_readNumber_52, xX3_readNumber_55, Bool.false_eq_true, if_true, if_false, kl_i, kl_a, kl_s, kl_u, kl_l, okS_nil, okS_cons, cat_i, cat_a, cat_s, cat_l, Nat.reduceAdd, Nat.reduceLeDiff, Nat.reduceSub, Nat.sub_zero, Nat.sub_self, Nat.zero_add, Nat.le_refl, Nat.zero_le, List.length_cons, List.length_nil, true_and, and_true, true_or, or_true, eq_self, forall_const, true_implies, not_true_eq_false, not_false_eq_true, false_implies, implies_true, false_and, and_false, false_or, or_false, s31, s31_32, upM_setR, setR_setR, tp_1, tp_2, tp_3, tp_4, tp_5, tp_6, tp_7, up_2, up_3, up_4, up_5, up_6, up_7, T1, T2, T3, T4, tk2]
    by_cases h1 : lxT B T s.2.2 = 2
    · rw [if_pos h1] at hQ
      refine ⟨fun _ => ?_, fun h => absurd h1 h⟩
      rw [hn' h1]
      have hv := (lxV_b h1).2.2
      have c1 : (nI (lxV B T s.2.2) < nI lo) = (lxV B T s.2.2 < lo) := ltN (by omega) (by omega)
      have c2 : (nI hi < nI (lxV B T s.2.2)) = (hi < lxV B T s.2.2) := ltN (by omega) (by omega)
      simp only [c1, c2]
      by_cases h2 : lxV B T s.2.2 < lo ∨ hi < lxV B T s.2.2
      · rw [if_pos h2] at hQ
        have fin : CT K (d + 5) YX3_blame [.ref 31, .int 2] σ (setR m 31 (tp f (nI s.1) (nI s.2.1) (nI (lxE B T s.2.2)) (nI (lxS B T s.2.2)) (tkC (lxT B T s.2.2)) (nI (lxV B T s.2.2)))) l (fun r σ m l => Q 0 σ m l) := t_blame hw0 (hQ _ _ _)
        by_cases h3 : lxV B T s.2.2 < lo
        · exact ⟨fun _ => fin, fun h => absurd h3 h⟩
        · have h4 : hi < lxV B T s.2.2 := h2.resolve_left h3
          exact ⟨fun h => absurd h h3, fun _ => ⟨fun _ => fin, fun h => absurd h4 h⟩⟩
      · rw [if_neg h2] at hQ
        refine ⟨fun h => absurd (Or.inl h) h2, fun _ => ⟨fun h => absurd (Or.inr h) h2, fun _ => ?_⟩⟩
        rw [h0]
        exact hQ _ _ _
    · rw [if_neg h1] at hQ
      refine ⟨fun h => absurd h h1, fun _ => ?_⟩
      refine t_blame hw0 ?_
      exact hQ _ _ _
  · rw [if_neg h0] at hQ
    exact ⟨fun h => absurd h h0, fun _ => hQ _ _ _⟩
