/-! what the class foretells, told by the model's functions -/
def wfN (σ : Sg) : Prop := isO σ 0 5 ∧ rf σ 0 0 = .ref 1 ∧ rf σ 0 1 = .ref 31 ∧ rf σ 0 2 = .ref 33 ∧ rf σ 0 3 = .ref 39 ∧ rf σ 0 4 = .ref 45 ∧ rf σ 0 5 = .ref 51 ∧ rf σ 0 6 = .ref 18 ∧ rf σ 0 7 = .ref 197 ∧ isP σ 33 ∧ isP σ 39 ∧ isP σ 45
def wfR (σ : Sg) : Prop := isO σ 1 112 ∧ ln σ 1 = 8 ∧ ∀ r, r < 8 → rf σ 1 r = .ref (2 + 2 * r) ∧ isRw σ (2 + 2 * r)
/-- only the draft and what is tried differ -/
def scr (m m' : Mm) : Prop := ∀ b, b < 39 ∨ 51 ≤ b → m' b = m b
theorem scr_r (m : Mm) : scr m m := fun _ _ => rfl
theorem scr_t {m m1 m2 : Mm} (h1 : scr m m1) (h2 : scr m1 m2) : scr m m2 := fun b hb => (h2 b hb).trans (h1 b hb)
theorem scr_39 {m m1 : Mm} (q : Mm) (h : scr m m1) : scr m (putP m1 39 q) := fun b hb => (putP_o m1 q (by omega)).trans (h b hb)
theorem scr_45 {m m1 : Mm} (q : Mm) (h : scr m m1) : scr m (putP m1 45 q) := fun b hb => (putP_o m1 q (by omega)).trans (h b hb)
theorem sameF_c {f f' g g' : Nat → Int32} : ∀ (k v : Nat), (∀ w, v ≤ w → w < v + k → f w = f' w ∧ g w = g' w) → sameF f g v k = sameF f' g' v k := by
  intro k
  induction k with
  | zero => intro v _; rfl
  | succ k ih =>
    intro v h
    simp only [sameF]
    rw [(h v (by omega) (by omega)).1, (h v (by omega) (by omega)).2, ih (v + 1) (fun w h1 h2 => h w (by omega) (by omega))]
theorem smF_c {f f' : Nat → Int32} : ∀ (k v : Nat) (s : Int32), (∀ w, v ≤ w → w < v + k → f w = f' w) → smF f v k s = smF f' v k s := by
  intro k
  induction k with
  | zero => intro v s _; rfl
  | succ k ih =>
    intro v s h
    simp only [smF]
    rw [h v (by omega) (by omega), ih (v + 1) _ (fun w h1 h2 => h w (by omega) (by omega))]
/-- tried: the same as the model's row -/
def triQ (N : Nat) (q : Mm) (a : Nat → Int32) (L : Nat → Prop) : Prop := relQ N q a L ∧ q 0 8 = nI N ∧ (q 0 5 = 0 ∨ q 0 5 = 1)
theorem tri_day {N : Nat} {q : Mm} {a : Nat → Int32} {L : Nat → Prop} (r : Int32) (h7 : N ≤ 7) (h : triQ N q a L) : dayS N q r = goS N a r ∧ triQ N (dayQ N q r) (goQ N a r) L := by
  obtain ⟨h1, h2, h3⟩ := h
  obtain ⟨e1, e2⟩ := day_rel r h7 h1
  exact ⟨e1, e2, h2, h3⟩
theorem tri_days {N : Nat} {L : Nat → Prop} (h7 : N ≤ 7) : ∀ (n : Nat) (q : Mm) (a : Nat → Int32), triQ N q a L → triQ N (dysQ N n q) (gosM N n a) L := by
  intro n
  induction n with
  | zero => intro q a h; exact h
  | succ n ih => intro q a h; exact ih _ _ (tri_day 0 h7 h).2
theorem tri_fs {N : Nat} {L : Nat → Prop} (h7 : N ≤ 7) : ∀ (k v : Nat) (q : Mm) (a : Nat → Int32), triQ N q a L → (fsL N k v q).1 = (liM N k v a).1 := by
  intro k
  induction k with
  | zero => intro v q a _; rfl
  | succ k ih =>
    intro v q a h
    obtain ⟨e1, e2⟩ := tri_day 0 h7 h
    simp only [fsL, liM, e1]
    by_cases h0 : goS N a 0 = 0
    · rw [if_pos h0, if_pos h0]; exact ih _ _ _ e2
    · rw [if_neg h0, if_neg h0]
/-- now, as the model has it -/
def nowH (N : Nat) (m : Mm) (a : Nat → Int32) : Prop := triQ N (getP m 33) a (fun _ => True)
theorem nowH_scr {N : Nat} {m m1 : Mm} {a : Nat → Int32} (h : scr m m1) (hn : nowH N m a) : nowH N m1 a := by
  have e : ∀ j, j < 6 → getP m1 33 j = getP m 33 j := fun j hj => h (33 + j) (by omega)
  unfold nowH triQ relQ at hn ⊢
  rw [e 0 (by omega), e 1 (by omega), e 2 (by omega), e 3 (by omega), e 4 (by omega), e 5 (by omega)]
  exact hn
theorem tri_start {N : Nat} {q s : Mm} {a a' : Nat → Int32} {L : Nat → Prop} (h7 : N ≤ 7) (h : triQ N s a (fun _ => True)) (h1 : ∀ j, j < 33 → a' j = a j) (h2 : ∀ v, v < N → L v → a' (33 + v) = 0) : triQ N (zl (takeQ q s)) a' L := by
  obtain ⟨⟨e0, e1, e2, e3, e4, e5, e6⟩, e7, e8⟩ := h
  have t0 : ∀ k, 5 ≤ k → k ≤ 10 → zl (takeQ q s) 0 k = s 0 k := fun k k5 k10 => by
    show takeL q s 7 0 k = _
    unfold takeL
    rw [if_pos (by omega)]
  have tj : ∀ j k, 1 ≤ j → j ≤ 4 → k < 7 → zl (takeQ q s) j k = s j k := fun j k j1 j4 hk => by
    have : zl (takeQ q s) j = takeQ q s j := setR_n _ _ (by omega)
    rw [this]
    unfold takeQ takeL
    rw [if_pos (by omega)]
  refine ⟨⟨?_, ?_, ?_, ?_, ?_, fun v hv => ⟨?_, ?_, ?_, ?_⟩, fun v hv hl => ?_⟩, ?_, ?_⟩
  · rw [t0 6 (by omega) (by omega), h1 0 (by omega)]; exact e0
  · rw [t0 7 (by omega) (by omega), h1 1 (by omega)]; exact e1
  · rw [t0 8 (by omega) (by omega), h1 2 (by omega)]; exact e2
  · rw [t0 9 (by omega) (by omega), h1 3 (by omega)]; exact e3
  · rw [t0 10 (by omega) (by omega), h1 4 (by omega)]; exact e4
  · rw [tj 1 v (by omega) (by omega) (by omega), h1 _ (by omega)]; exact (e5 v hv).1
  · rw [tj 3 v (by omega) (by omega) (by omega), h1 _ (by omega)]; exact (e5 v hv).2.1
  · rw [tj 4 v (by omega) (by omega) (by omega), h1 _ (by omega)]; exact (e5 v hv).2.2.1
  · rw [tj 2 v (by omega) (by omega) (by omega), h1 _ (by omega)]; exact (e5 v hv).2.2.2
  · rw [h2 v hv hl]
    show setR (takeQ q s) 5 (fun k => if k < 7 then 0 else takeQ q s 5 k) 5 v = 0
    rw [setR_s, if_pos (by omega)]
  · rw [t0 8 (by omega) (by omega)]; exact e7
  · rw [t0 5 (by omega) (by omega)]; exact e8
theorem t_start {K : Cx} {d : Nat} {σ : Sg} {m m0 : Mm} {l : Ml} {N : Nat} {a a' : Nat → Int32} {L : Nat → Prop} {Q : Rt} (hw : wfN σ) (h7 : N ≤ 7) (hn : nowH N m0 a) (hs : scr m0 m) (h1 : ∀ j, j < 33 → a' j = a j) (h2 : ∀ v, v < N → L v → a' (33 + v) = 0) (hQ : ∀ q, triQ N q a' L → Q 0 σ (putP m 45 q) l) : CT K (d + 2) YX5_startForetelling [.ref 0] σ m l Q := by
  obtain ⟨H0, F0, F1, F2, F3, F4, F5, F6, F7, P33, P39, P45⟩ := hw
  have hn := nowH_scr hs hn
  refine kX5_startForetelling ?_
  simp only [xX5_startForetelling_0, xX5_startForetelling_1, xX5_startForetelling_4, xX5_startForetelling_5, xX5_startForetelling_8, xX5_startForetelling_11, xX5_startForetelling_12, xX5_startForetelling_15, xX5_startForetelling_18, Bool.false_eq_true, if_true, if_false, kl_i, kl_a, kl_s, kl_u, kl_l, okS_nil, okS_cons, cat_i, cat_a, cat_s, cat_l, Nat.reduceAdd, Nat.reduceLeDiff, Nat.reduceSub, Nat.sub_zero, Nat.sub_self, Nat.zero_add, Nat.le_refl, Nat.zero_le, List.length_cons, List.length_nil, true_and, and_true, true_or, or_true, eq_self, forall_const, true_implies, not_true_eq_false, not_false_eq_true, false_implies, implies_true, false_and, and_false, false_or, or_false, H0, F0, F1, F2, F3, F4, F5, F6, F7, P33.1, P39.1, P45.1]
  refine t_take P45 P33 (by omega) hn.2.2 ?_
  simp only [xX5_startForetelling_0, xX5_startForetelling_1, xX5_startForetelling_4, xX5_startForetelling_5, xX5_startForetelling_8, xX5_startForetelling_11, xX5_startForetelling_12, xX5_startForetelling_15, xX5_startForetelling_18, Bool.false_eq_true, if_true, if_false, kl_i, kl_a, kl_s, kl_u, kl_l, okS_nil, okS_cons, cat_i, cat_a, cat_s, cat_l, Nat.reduceAdd, Nat.reduceLeDiff, Nat.reduceSub, Nat.sub_zero, Nat.sub_self, Nat.zero_add, Nat.le_refl, Nat.zero_le, List.length_cons, List.length_nil, true_and, and_true, true_or, or_true, eq_self, forall_const, true_implies, not_true_eq_false, not_false_eq_true, false_implies, implies_true, false_and, and_false, false_or, or_false, H0, F0, F1, F2, F3, F4, F5, F6, F7, P33.1, P39.1, P45.1]
  refine t_forgetLacks P45 ?_
  exact hQ _ (tri_start h7 hn h1 h2)
/-- days until a day changes nothing -/
def rsM (N : Nat) : Nat → Nat → (Nat → Int32) → Int32
  | 0, _, _ => -1000000
  | k + 1, d, a => if sameF (fun v => goQ N a 0 (26 + v)) (fun v => a (26 + v)) 0 N then nI d else rsM N k (d + 1) (goQ N a 0)
theorem l_dtr {K : Cx} {d : Nat} {σ : Sg} {m0 : Mm} {l : Ml} {N : Nat} {L : Nat → Prop} {Q : Rt} (hw : wfN σ) (h7 : N ≤ 7) : ∀ (k v : Nat) (q m : Mm) (a : Nat → Int32), v + k = 61 → scr m0 m → triQ N q a L → (∀ m', scr m0 m' → Q (rsM N k v a) σ m' l) → WX (tX5_daysToRest K (d + 4)) Q (2, [.ref 0, .int (nI v)], [], (0, 0), σ, putP m 45 q, l) := by
  have hw0 := hw
  obtain ⟨H0, F0, F1, F2, F3, F4, F5, F6, F7, P33, P39, P45⟩ := hw
  intro k
  induction k with
  | zero =>
    intro v q m a hv hs ht hQ
    have c1 : ((60 : Int32) < nI v) = True := (ltN (a := 60) (b := v) (by omega) (by omega)).trans (eq_true (by omega))
    rw [xX5_daysToRest_2]
    simp only [xX5_daysToRest_0, xX5_daysToRest_1, xX5_daysToRest_3, xX5_daysToRest_5, xX5_daysToRest_8, xX5_daysToRest_9, xX5_daysToRest_12, xX5_daysToRest_13, xX5_daysToRest_16, xX5_daysToRest_19, xX5_daysToRest_20, xX5_daysToRest_23, xX5_daysToRest_24, xX5_daysToRest_27, xX5_daysToRest_28, xX5_daysToRest_29, xX5_daysToRest_32, xX5_daysToRest_33, xX5_daysToRest_36, xX5_daysToRest_39, xX5_daysToRest_42, xX5_daysToRest_43, xX5_daysToRest_44, xX5_daysToRest_47, xX5_daysToRest_50, xX5_daysToRest_52, Bool.false_eq_true, if_true, if_false, kl_i, kl_a, kl_s, kl_u, kl_l, okS_nil, okS_cons, cat_i, cat_a, cat_s, cat_l, Nat.reduceAdd, Nat.reduceLeDiff, Nat.reduceSub, Nat.sub_zero, Nat.sub_self, Nat.zero_add, Nat.le_refl, Nat.zero_le, List.length_cons, List.length_nil, true_and, and_true, true_or, or_true, eq_self, forall_const, true_implies, not_true_eq_false, not_false_eq_true, false_implies, implies_true, false_and, and_false, false_or, or_false, c1]
    exact hQ _ (scr_45 _ hs)
  | succ k ih =>
    intro v q m a hv hs ht hQ
    have c1 : ((60 : Int32) < nI v) = False := (ltN (a := 60) (b := v) (by omega) (by omega)).trans (eq_false (by omega))
    rw [xX5_daysToRest_2]
    simp only [xX5_daysToRest_0, xX5_daysToRest_1, xX5_daysToRest_3, xX5_daysToRest_5, xX5_daysToRest_8, xX5_daysToRest_9, xX5_daysToRest_12, xX5_daysToRest_13, xX5_daysToRest_16, xX5_daysToRest_19, xX5_daysToRest_20, xX5_daysToRest_23, xX5_daysToRest_24, xX5_daysToRest_27, xX5_daysToRest_28, xX5_daysToRest_29, xX5_daysToRest_32, xX5_daysToRest_33, xX5_daysToRest_36, xX5_daysToRest_39, xX5_daysToRest_42, xX5_daysToRest_43, xX5_daysToRest_44, xX5_daysToRest_47, xX5_daysToRest_50, xX5_daysToRest_52, Bool.false_eq_true, if_true, if_false, kl_i, kl_a, kl_s, kl_u, kl_l, okS_nil, okS_cons, cat_i, cat_a, cat_s, cat_l, Nat.reduceAdd, Nat.reduceLeDiff, Nat.reduceSub, Nat.sub_zero, Nat.sub_self, Nat.zero_add, Nat.le_refl, Nat.zero_le, List.length_cons, List.length_nil, true_and, and_true, true_or, or_true, eq_self, forall_const, true_implies, not_true_eq_false, not_false_eq_true, false_implies, implies_true, false_and, and_false, false_or, or_false, c1, H0, F0, F1, F2, F3, F4, F5, F6, F7, P33.1, P39.1, P45.1]
    refine t_take P39 P45 (by omega) ?_ ?_
    · rw [putP_0]; exact ht.2.2
    simp only [xX5_daysToRest_0, xX5_daysToRest_1, xX5_daysToRest_3, xX5_daysToRest_5, xX5_daysToRest_8, xX5_daysToRest_9, xX5_daysToRest_12, xX5_daysToRest_13, xX5_daysToRest_16, xX5_daysToRest_19, xX5_daysToRest_20, xX5_daysToRest_23, xX5_daysToRest_24, xX5_daysToRest_27, xX5_daysToRest_28, xX5_daysToRest_29, xX5_daysToRest_32, xX5_daysToRest_33, xX5_daysToRest_36, xX5_daysToRest_39, xX5_daysToRest_42, xX5_daysToRest_43, xX5_daysToRest_44, xX5_daysToRest_47, xX5_daysToRest_50, xX5_daysToRest_52, Bool.false_eq_true, if_true, if_false, kl_i, kl_a, kl_s, kl_u, kl_l, okS_nil, okS_cons, cat_i, cat_a, cat_s, cat_l, Nat.reduceAdd, Nat.reduceLeDiff, Nat.reduceSub, Nat.sub_zero, Nat.sub_self, Nat.zero_add, Nat.le_refl, Nat.zero_le, List.length_cons, List.length_nil, true_and, and_true, true_or, or_true, eq_self, forall_const, true_implies, not_true_eq_false, not_false_eq_true, false_implies, implies_true, false_and, and_false, false_or, or_false, H0, F0, F1, F2, F3, F4, F5, F6, F7, P33.1, P39.1, P45.1]
    obtain ⟨e1, e2⟩ := tri_day 0 h7 ht
    have eg : ∀ j, j < 6 → getP (putP m 45 q) 45 j = q j := fun j hj => getP_putP m 45 q hj
    have ed : putP (putP m 45 q) 39 (takeQ (getP (putP m 45 q) 39) (getP (putP m 45 q) 45)) = putP (putP m 39 (takeQ (getP (putP m 45 q) 39) (getP (putP m 45 q) 45))) 45 q := by
      funext b
      simp only [putP]
      by_cases h1 : 39 ≤ b ∧ b < 39 + 6
      · rw [if_pos h1, if_neg (by omega), if_pos h1]
      · rw [if_neg h1, if_neg h1]
    rw [ed]
    refine t_passDay P45 ht.2.1 h7 ?_
    simp only [xX5_daysToRest_0, xX5_daysToRest_1, xX5_daysToRest_3, xX5_daysToRest_5, xX5_daysToRest_8, xX5_daysToRest_9, xX5_daysToRest_12, xX5_daysToRest_13, xX5_daysToRest_16, xX5_daysToRest_19, xX5_daysToRest_20, xX5_daysToRest_23, xX5_daysToRest_24, xX5_daysToRest_27, xX5_daysToRest_28, xX5_daysToRest_29, xX5_daysToRest_32, xX5_daysToRest_33, xX5_daysToRest_36, xX5_daysToRest_39, xX5_daysToRest_42, xX5_daysToRest_43, xX5_daysToRest_44, xX5_daysToRest_47, xX5_daysToRest_50, xX5_daysToRest_52, Bool.false_eq_true, if_true, if_false, kl_i, kl_a, kl_s, kl_u, kl_l, okS_nil, okS_cons, cat_i, cat_a, cat_s, cat_l, Nat.reduceAdd, Nat.reduceLeDiff, Nat.reduceSub, Nat.sub_zero, Nat.sub_self, Nat.zero_add, Nat.le_refl, Nat.zero_le, List.length_cons, List.length_nil, true_and, and_true, true_or, or_true, eq_self, forall_const, true_implies, not_true_eq_false, not_false_eq_true, false_implies, implies_true, false_and, and_false, false_or, or_false, H0, F0, F1, F2, F3, F4, F5, F6, F7, P33.1, P39.1, P45.1]
    refine t_hasFillsOf (N := N) P45 P39 ?_ h7 ?_
    · rw [putP_0]; exact e2.2.1
    have es : sameF (putP (putP m 39 (takeQ (getP (putP m 45 q) 39) (getP (putP m 45 q) 45))) 45 (dayQ N q 0) (45 + 2)) (putP (putP m 39 (takeQ (getP (putP m 45 q) 39) (getP (putP m 45 q) 45))) 45 (dayQ N q 0) (39 + 2)) 0 N = sameF (fun v => goQ N a 0 (26 + v)) (fun v => a (26 + v)) 0 N := by
      refine sameF_c N 0 (fun w _ hw => ⟨?_, ?_⟩)
      · rw [putP_2]
        exact (e2.1.2.2.2.2.2.1 w (by omega)).2.2.2
      · rw [putP_o _ _ (by omega), putP_2]
        show takeL _ _ 7 2 w = _
        unfold takeL
        rw [if_pos (by omega), eg 2 (by omega)]
        exact (ht.1.2.2.2.2.2.1 w (by omega)).2.2.2
    rw [es]
    simp only [rsM] at hQ
    cases h : sameF (fun v => goQ N a 0 (26 + v)) (fun v => a (26 + v)) 0 N
    · simp only [h, xX5_daysToRest_0, xX5_daysToRest_1, xX5_daysToRest_3, xX5_daysToRest_5, xX5_daysToRest_8, xX5_daysToRest_9, xX5_daysToRest_12, xX5_daysToRest_13, xX5_daysToRest_16, xX5_daysToRest_19, xX5_daysToRest_20, xX5_daysToRest_23, xX5_daysToRest_24, xX5_daysToRest_27, xX5_daysToRest_28, xX5_daysToRest_29, xX5_daysToRest_32, xX5_daysToRest_33, xX5_daysToRest_36, xX5_daysToRest_39, xX5_daysToRest_42, xX5_daysToRest_43, xX5_daysToRest_44, xX5_daysToRest_47, xX5_daysToRest_50, xX5_daysToRest_52, Bool.false_eq_true, if_true, if_false, kl_i, kl_a, kl_s, kl_u, kl_l, okS_nil, okS_cons, cat_i, cat_a, cat_s, cat_l, Nat.reduceAdd, Nat.reduceLeDiff, Nat.reduceSub, Nat.sub_zero, Nat.sub_self, Nat.zero_add, Nat.le_refl, Nat.zero_le, List.length_cons, List.length_nil, true_and, and_true, true_or, or_true, eq_self, forall_const, true_implies, not_true_eq_false, not_false_eq_true, false_implies, implies_true, false_and, and_false, false_or, or_false, nI1] at hQ ⊢
      exact ih (v + 1) _ _ _ (by omega) (scr_39 _ hs) e2 hQ
    · simp only [h, xX5_daysToRest_0, xX5_daysToRest_1, xX5_daysToRest_3, xX5_daysToRest_5, xX5_daysToRest_8, xX5_daysToRest_9, xX5_daysToRest_12, xX5_daysToRest_13, xX5_daysToRest_16, xX5_daysToRest_19, xX5_daysToRest_20, xX5_daysToRest_23, xX5_daysToRest_24, xX5_daysToRest_27, xX5_daysToRest_28, xX5_daysToRest_29, xX5_daysToRest_32, xX5_daysToRest_33, xX5_daysToRest_36, xX5_daysToRest_39, xX5_daysToRest_42, xX5_daysToRest_43, xX5_daysToRest_44, xX5_daysToRest_47, xX5_daysToRest_50, xX5_daysToRest_52, Bool.false_eq_true, if_true, if_false, kl_i, kl_a, kl_s, kl_u, kl_l, okS_nil, okS_cons, cat_i, cat_a, cat_s, cat_l, Nat.reduceAdd, Nat.reduceLeDiff, Nat.reduceSub, Nat.sub_zero, Nat.sub_self, Nat.zero_add, Nat.le_refl, Nat.zero_le, List.length_cons, List.length_nil, true_and, and_true, true_or, or_true, eq_self, forall_const, true_implies, not_true_eq_false, not_false_eq_true, false_implies, implies_true, false_and, and_false, false_or, or_false, i10] at hQ ⊢
      exact hQ _ (scr_45 _ (scr_39 _ hs))
theorem t_daysToRest {K : Cx} {d : Nat} {σ : Sg} {m0 m : Mm} {l : Ml} {N : Nat} {L : Nat → Prop} {q : Mm} {a : Nat → Int32} {Q : Rt} (hw : wfN σ) (h7 : N ≤ 7) (hs : scr m0 m) (ht : triQ N q a L) (hQ : ∀ m', scr m0 m' → Q (rsM N 61 0 a) σ m' l) : CT K (d + 5) YX5_daysToRest [.ref 0] σ (putP m 45 q) l Q := by
  refine kX5_daysToRest ?_
  simp only [xX5_daysToRest_0, xX5_daysToRest_1, Bool.false_eq_true, if_true, if_false, kl_i, kl_a, kl_s, kl_u, kl_l, okS_nil, okS_cons, cat_i, cat_a, cat_s, cat_l, Nat.reduceAdd, Nat.reduceLeDiff, Nat.reduceSub, Nat.sub_zero, Nat.sub_self, Nat.zero_add, Nat.le_refl, Nat.zero_le, List.length_cons, List.length_nil, true_and, and_true, true_or, or_true, eq_self, forall_const, true_implies, not_true_eq_false, not_false_eq_true, false_implies, implies_true, false_and, and_false, false_or, or_false]
  exact l_dtr hw h7 61 0 q m a (by omega) hs ht hQ
/-- days until all is as it was -/
def rtM (N : Nat) (f : Nat → Int32) : Nat → Nat → (Nat → Int32) → Int32
  | 0, _, _ => -1000000
  | k + 1, d, a => if sameF (fun v => goQ N a 0 (26 + v)) f 0 N then nI d else rtM N f k (d + 1) (goQ N a 0)
theorem l_dtn {K : Cx} {d : Nat} {σ : Sg} {m0 : Mm} {l : Ml} {N : Nat} {L : Nat → Prop} {a0 : Nat → Int32} {Q : Rt} (hw : wfN σ) (h7 : N ≤ 7) (hn : nowH N m0 a0) : ∀ (k v : Nat) (q m : Mm) (a : Nat → Int32), v + k = 61 → scr m0 m → triQ N q a L → (∀ m', scr m0 m' → Q (rtM N (fun v => a0 (26 + v)) k v a) σ m' l) → WX (tX5_daysToReturn K (d + 4)) Q (2, [.ref 0, .int (nI v)], [], (0, 0), σ, putP m 45 q, l) := by
  obtain ⟨H0, F0, F1, F2, F3, F4, F5, F6, F7, P33, P39, P45⟩ := hw
  intro k
  induction k with
  | zero =>
    intro v q m a hv hs ht hQ
    have c1 : ((60 : Int32) < nI v) = True := (ltN (a := 60) (b := v) (by omega) (by omega)).trans (eq_true (by omega))
    rw [xX5_daysToReturn_2]
    simp only [xX5_daysToReturn_0, xX5_daysToReturn_1, xX5_daysToReturn_3, xX5_daysToReturn_5, xX5_daysToReturn_8, xX5_daysToReturn_9, xX5_daysToReturn_12, xX5_daysToReturn_13, xX5_daysToReturn_16, xX5_daysToReturn_17, xX5_daysToReturn_18, xX5_daysToReturn_21, xX5_daysToReturn_22, xX5_daysToReturn_25, xX5_daysToReturn_28, xX5_daysToReturn_31, xX5_daysToReturn_32, xX5_daysToReturn_33, xX5_daysToReturn_36, xX5_daysToReturn_39, xX5_daysToReturn_41, Bool.false_eq_true, if_true, if_false, kl_i, kl_a, kl_s, kl_u, kl_l, okS_nil, okS_cons, cat_i, cat_a, cat_s, cat_l, Nat.reduceAdd, Nat.reduceLeDiff, Nat.reduceSub, Nat.sub_zero, Nat.sub_self, Nat.zero_add, Nat.le_refl, Nat.zero_le, List.length_cons, List.length_nil, true_and, and_true, true_or, or_true, eq_self, forall_const, true_implies, not_true_eq_false, not_false_eq_true, false_implies, implies_true, false_and, and_false, false_or, or_false, c1]
    exact hQ _ (scr_45 _ hs)
  | succ k ih =>
    intro v q m a hv hs ht hQ
    have c1 : ((60 : Int32) < nI v) = False := (ltN (a := 60) (b := v) (by omega) (by omega)).trans (eq_false (by omega))
    rw [xX5_daysToReturn_2]
    simp only [xX5_daysToReturn_0, xX5_daysToReturn_1, xX5_daysToReturn_3, xX5_daysToReturn_5, xX5_daysToReturn_8, xX5_daysToReturn_9, xX5_daysToReturn_12, xX5_daysToReturn_13, xX5_daysToReturn_16, xX5_daysToReturn_17, xX5_daysToReturn_18, xX5_daysToReturn_21, xX5_daysToReturn_22, xX5_daysToReturn_25, xX5_daysToReturn_28, xX5_daysToReturn_31, xX5_daysToReturn_32, xX5_daysToReturn_33, xX5_daysToReturn_36, xX5_daysToReturn_39, xX5_daysToReturn_41, Bool.false_eq_true, if_true, if_false, kl_i, kl_a, kl_s, kl_u, kl_l, okS_nil, okS_cons, cat_i, cat_a, cat_s, cat_l, Nat.reduceAdd, Nat.reduceLeDiff, Nat.reduceSub, Nat.sub_zero, Nat.sub_self, Nat.zero_add, Nat.le_refl, Nat.zero_le, List.length_cons, List.length_nil, true_and, and_true, true_or, or_true, eq_self, forall_const, true_implies, not_true_eq_false, not_false_eq_true, false_implies, implies_true, false_and, and_false, false_or, or_false, c1, H0, F0, F1, F2, F3, F4, F5, F6, F7, P33.1, P39.1, P45.1]
    obtain ⟨e1, e2⟩ := tri_day 0 h7 ht
    refine t_passDay P45 ht.2.1 h7 ?_
    simp only [xX5_daysToReturn_0, xX5_daysToReturn_1, xX5_daysToReturn_3, xX5_daysToReturn_5, xX5_daysToReturn_8, xX5_daysToReturn_9, xX5_daysToReturn_12, xX5_daysToReturn_13, xX5_daysToReturn_16, xX5_daysToReturn_17, xX5_daysToReturn_18, xX5_daysToReturn_21, xX5_daysToReturn_22, xX5_daysToReturn_25, xX5_daysToReturn_28, xX5_daysToReturn_31, xX5_daysToReturn_32, xX5_daysToReturn_33, xX5_daysToReturn_36, xX5_daysToReturn_39, xX5_daysToReturn_41, Bool.false_eq_true, if_true, if_false, kl_i, kl_a, kl_s, kl_u, kl_l, okS_nil, okS_cons, cat_i, cat_a, cat_s, cat_l, Nat.reduceAdd, Nat.reduceLeDiff, Nat.reduceSub, Nat.sub_zero, Nat.sub_self, Nat.zero_add, Nat.le_refl, Nat.zero_le, List.length_cons, List.length_nil, true_and, and_true, true_or, or_true, eq_self, forall_const, true_implies, not_true_eq_false, not_false_eq_true, false_implies, implies_true, false_and, and_false, false_or, or_false, H0, F0, F1, F2, F3, F4, F5, F6, F7, P33.1, P39.1, P45.1]
    refine t_hasFillsOf (N := N) P45 P33 ?_ h7 ?_
    · rw [putP_0]; exact e2.2.1
    have es : sameF (putP m 45 (dayQ N q 0) (45 + 2)) (putP m 45 (dayQ N q 0) (33 + 2)) 0 N = sameF (fun v => goQ N a 0 (26 + v)) (fun v => a0 (26 + v)) 0 N := by
      refine sameF_c N 0 (fun w _ hw => ⟨?_, ?_⟩)
      · rw [putP_2]
        exact (e2.1.2.2.2.2.2.1 w (by omega)).2.2.2
      · rw [putP_o _ _ (by omega), hs _ (by omega)]
        exact (hn.1.2.2.2.2.2.1 w (by omega)).2.2.2
    rw [es]
    simp only [rtM] at hQ
    cases h : sameF (fun v => goQ N a 0 (26 + v)) (fun v => a0 (26 + v)) 0 N
    · simp only [h, xX5_daysToReturn_0, xX5_daysToReturn_1, xX5_daysToReturn_3, xX5_daysToReturn_5, xX5_daysToReturn_8, xX5_daysToReturn_9, xX5_daysToReturn_12, xX5_daysToReturn_13, xX5_daysToReturn_16, xX5_daysToReturn_17, xX5_daysToReturn_18, xX5_daysToReturn_21, xX5_daysToReturn_22, xX5_daysToReturn_25, xX5_daysToReturn_28, xX5_daysToReturn_31, xX5_daysToReturn_32, xX5_daysToReturn_33, xX5_daysToReturn_36, xX5_daysToReturn_39, xX5_daysToReturn_41, Bool.false_eq_true, if_true, if_false, kl_i, kl_a, kl_s, kl_u, kl_l, okS_nil, okS_cons, cat_i, cat_a, cat_s, cat_l, Nat.reduceAdd, Nat.reduceLeDiff, Nat.reduceSub, Nat.sub_zero, Nat.sub_self, Nat.zero_add, Nat.le_refl, Nat.zero_le, List.length_cons, List.length_nil, true_and, and_true, true_or, or_true, eq_self, forall_const, true_implies, not_true_eq_false, not_false_eq_true, false_implies, implies_true, false_and, and_false, false_or, or_false, nI1] at hQ ⊢
      exact ih (v + 1) _ _ _ (by omega) hs e2 hQ
    · simp only [h, xX5_daysToReturn_0, xX5_daysToReturn_1, xX5_daysToReturn_3, xX5_daysToReturn_5, xX5_daysToReturn_8, xX5_daysToReturn_9, xX5_daysToReturn_12, xX5_daysToReturn_13, xX5_daysToReturn_16, xX5_daysToReturn_17, xX5_daysToReturn_18, xX5_daysToReturn_21, xX5_daysToReturn_22, xX5_daysToReturn_25, xX5_daysToReturn_28, xX5_daysToReturn_31, xX5_daysToReturn_32, xX5_daysToReturn_33, xX5_daysToReturn_36, xX5_daysToReturn_39, xX5_daysToReturn_41, Bool.false_eq_true, if_true, if_false, kl_i, kl_a, kl_s, kl_u, kl_l, okS_nil, okS_cons, cat_i, cat_a, cat_s, cat_l, Nat.reduceAdd, Nat.reduceLeDiff, Nat.reduceSub, Nat.sub_zero, Nat.sub_self, Nat.zero_add, Nat.le_refl, Nat.zero_le, List.length_cons, List.length_nil, true_and, and_true, true_or, or_true, eq_self, forall_const, true_implies, not_true_eq_false, not_false_eq_true, false_implies, implies_true, false_and, and_false, false_or, or_false, i10] at hQ ⊢
      exact hQ _ (scr_45 _ hs)
theorem t_daysToReturn {K : Cx} {d : Nat} {σ : Sg} {m0 m : Mm} {l : Ml} {N : Nat} {L : Nat → Prop} {q : Mm} {a0 a : Nat → Int32} {Q : Rt} (hw : wfN σ) (h7 : N ≤ 7) (hn : nowH N m0 a0) (hs : scr m0 m) (ht : triQ N q a L) (hQ : ∀ m', scr m0 m' → Q (rtM N (fun v => a0 (26 + v)) 60 1 a) σ m' l) : CT K (d + 5) YX5_daysToReturn [.ref 0] σ (putP m 45 q) l Q := by
  refine kX5_daysToReturn ?_
  simp only [xX5_daysToReturn_0, xX5_daysToReturn_1, Bool.false_eq_true, if_true, if_false, kl_i, kl_a, kl_s, kl_u, kl_l, okS_nil, okS_cons, cat_i, cat_a, cat_s, cat_l, Nat.reduceAdd, Nat.reduceLeDiff, Nat.reduceSub, Nat.sub_zero, Nat.sub_self, Nat.zero_add, Nat.le_refl, Nat.zero_le, List.length_cons, List.length_nil, true_and, and_true, true_or, or_true, eq_self, forall_const, true_implies, not_true_eq_false, not_false_eq_true, false_implies, implies_true, false_and, and_false, false_or, or_false]
  exact l_dtn hw h7 hn 60 1 q m a (by omega) hs ht hQ
theorem shN : ∀ N : Nat, N < 8 → (1 : Int32) <<< (nI N &&& 31) = nI (2 ^ N) := by decide +kernel
theorem p27 : ∀ N : Nat, N < 8 → 2 ^ N ≤ 128 := by decide +kernel
theorem bc7 : ∀ s : Nat, s < 128 → (fun i : Int32 => (fun i : Int32 => (fun i : Int32 => (fun i : Int32 => (fun i : Int32 => i + (i.toUInt32 >>> (16 : Int32).toUInt32).toInt32) (i + (i.toUInt32 >>> (8 : Int32).toUInt32).toInt32)) ((i + (i.toUInt32 >>> (4 : Int32).toUInt32).toInt32) &&& 252645135)) ((i &&& 858993459) + ((i.toUInt32 >>> (2 : Int32).toUInt32).toInt32 &&& 858993459))) (i - ((i.toUInt32 >>> (1 : Int32).toUInt32).toInt32 &&& 1431655765))) (nI s) &&& 63 = bts (nI s) := by decide +kernel
theorem t_bitCount {K : Cx} {d : Nat} {σ : Sg} {m : Mm} {l : Ml} {s : Nat} {Q : Rt} (hs : s < 128) (hQ : Q (bts (nI s)) σ m l) : CT K (d + 1) YJ6_bitCount_0f7a4 [.int (nI s)] σ m l Q := by
  refine kJ6_bitCount_0f7a4 ?_
  simp only [xJ6_bitCount_0f7a4_0, xJ6_bitCount_0f7a4_1, xJ6_bitCount_0f7a4_2, xJ6_bitCount_0f7a4_3, xJ6_bitCount_0f7a4_4, xJ6_bitCount_0f7a4_7, xJ6_bitCount_0f7a4_8, xJ6_bitCount_0f7a4_9, xJ6_bitCount_0f7a4_10, xJ6_bitCount_0f7a4_11, xJ6_bitCount_0f7a4_14, xJ6_bitCount_0f7a4_15, xJ6_bitCount_0f7a4_16, xJ6_bitCount_0f7a4_17, xJ6_bitCount_0f7a4_18, xJ6_bitCount_0f7a4_21, xJ6_bitCount_0f7a4_22, xJ6_bitCount_0f7a4_23, xJ6_bitCount_0f7a4_24, xJ6_bitCount_0f7a4_25, xJ6_bitCount_0f7a4_26, xJ6_bitCount_0f7a4_27, xJ6_bitCount_0f7a4_28, xJ6_bitCount_0f7a4_29, xJ6_bitCount_0f7a4_32, xJ6_bitCount_0f7a4_33, xJ6_bitCount_0f7a4_34, xJ6_bitCount_0f7a4_35, xJ6_bitCount_0f7a4_36, xJ6_bitCount_0f7a4_38, xJ6_bitCount_0f7a4_39, xJ6_bitCount_0f7a4_40, xJ6_bitCount_0f7a4_41, xJ6_bitCount_0f7a4_42, xJ6_bitCount_0f7a4_43, xJ6_bitCount_0f7a4_45, xJ6_bitCount_0f7a4_46, xJ6_bitCount_0f7a4_47, xJ6_bitCount_0f7a4_48, xJ6_bitCount_0f7a4_49, xJ6_bitCount_0f7a4_51, xJ6_bitCount_0f7a4_52, Bool.false_eq_true, if_true, if_false, kl_i, kl_a, kl_s, kl_u, kl_l, okS_nil, okS_cons, cat_i, cat_a, cat_s, cat_l, Nat.reduceAdd, Nat.reduceLeDiff, Nat.reduceSub, Nat.sub_zero, Nat.sub_self, Nat.zero_add, Nat.le_refl, Nat.zero_le, List.length_cons, List.length_nil, true_and, and_true, true_or, or_true, eq_self, forall_const, true_implies, not_true_eq_false, not_false_eq_true, false_implies, implies_true, false_and, and_false, false_or, or_false]
  rw [← bc7 s hs] at hQ
  exact hQ
