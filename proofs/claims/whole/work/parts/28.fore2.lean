/-! guards, draws, flows tried out -/
def okG (N n : Nat) (a : Nat → Int32) (s : Nat) : Bool := decide ((liM N n 0 (upd a 4 (nI s))).1 = -1000000)
def lgM (N n : Nat) (a : Nat → Int32) (many : Int32) : Nat → Nat → Int32
  | 0, _ => -1000000
  | k + 1, s => if bts (nI s) = many ∧ okG N n a s = true then nI s else lgM N n a many k (s + 1)
theorem tri_4 {N : Nat} {q : Mm} {a : Nat → Int32} {L : Nat → Prop} (x : Int32) (h7 : N ≤ 7) (h : triQ N q a L) : triQ N (setR q 0 (upd (q 0) 10 x)) (upd a 4 x) L := by
  obtain ⟨⟨e0, e1, e2, e3, e4, e5, e6⟩, e7, e8⟩ := h
  have o : ∀ j, j ≠ 4 → upd a 4 x j = a j := fun j hj => upd_n _ _ hj
  refine ⟨⟨?_, ?_, ?_, ?_, ?_, fun v hv => ⟨?_, ?_, ?_, ?_⟩, fun v hv hl => ?_⟩, e7, e8⟩
  · rw [o 0 (by decide)]; exact e0
  · rw [o 1 (by decide)]; exact e1
  · rw [o 2 (by decide)]; exact e2
  · rw [o 3 (by decide)]; exact e3
  · rfl
  · rw [o _ (by omega)]; exact (e5 v hv).1
  · rw [o _ (by omega)]; exact (e5 v hv).2.1
  · rw [o _ (by omega)]; exact (e5 v hv).2.2.1
  · rw [o _ (by omega)]; exact (e5 v hv).2.2.2
  · rw [o _ (by omega)]; exact e6 v hv hl
theorem l_lg {K : Cx} {d : Nat} {σ : Sg} {m0 : Mm} {l : Ml} {N n : Nat} {a : Nat → Int32} {many : Int32} {Q : Rt} (hw : wfN σ) (h7 : N ≤ 7) (hn100 : n ≤ 100) (hn : nowH N m0 a) : ∀ (k s : Nat) (m : Mm), s + k = 2 ^ N → scr m0 m → (∀ m', scr m0 m' → Q (lgM N n a many k s) σ m' l) → WX (tX5_leastGuards K (d + 5)) Q (13, [.ref 0, .int many, .int (nI n), .int (nI (2 ^ N)), .int (nI s)], [], (0, 0), σ, m, l) := by
  have hw0 := hw
  obtain ⟨H0, F0, F1, F2, F3, F4, F5, F6, F7, P33, P39, P45⟩ := hw
  have hp := p27 N (by omega)
  intro k
  induction k with
  | zero =>
    intro s m hv hs hQ
    have c1 : (nI s < nI (2 ^ N)) = False := (ltN (by omega) (by omega)).trans (eq_false (by omega))
    rw [xX5_leastGuards_13]
    simp only [xX5_leastGuards_0, xX5_leastGuards_1, xX5_leastGuards_2, xX5_leastGuards_5, xX5_leastGuards_8, xX5_leastGuards_9, xX5_leastGuards_10, xX5_leastGuards_11, xX5_leastGuards_15, xX5_leastGuards_16, xX5_leastGuards_19, xX5_leastGuards_21, xX5_leastGuards_24, xX5_leastGuards_25, xX5_leastGuards_28, xX5_leastGuards_29, xX5_leastGuards_32, xX5_leastGuards_33, xX5_leastGuards_36, xX5_leastGuards_38, xX5_leastGuards_41, xX5_leastGuards_42, xX5_leastGuards_45, xX5_leastGuards_46, xX5_leastGuards_49, xX5_leastGuards_51, xX5_leastGuards_54, xX5_leastGuards_56, xX5_leastGuards_57, xX5_leastGuards_60, xX5_leastGuards_63, xX5_leastGuards_65, Bool.false_eq_true, if_true, if_false, kl_i, kl_a, kl_s, kl_u, kl_l, okS_nil, okS_cons, cat_i, cat_a, cat_s, cat_l, Nat.reduceAdd, Nat.reduceLeDiff, Nat.reduceSub, Nat.sub_zero, Nat.sub_self, Nat.zero_add, Nat.le_refl, Nat.zero_le, List.length_cons, List.length_nil, true_and, and_true, true_or, or_true, eq_self, forall_const, true_implies, not_true_eq_false, not_false_eq_true, false_implies, implies_true, false_and, and_false, false_or, or_false, c1]
    exact hQ _ hs
  | succ k ih =>
    intro s m hv hs hQ
    have c1 : (nI s < nI (2 ^ N)) = True := (ltN (by omega) (by omega)).trans (eq_true (by omega))
    rw [xX5_leastGuards_13]
    simp only [xX5_leastGuards_0, xX5_leastGuards_1, xX5_leastGuards_2, xX5_leastGuards_5, xX5_leastGuards_8, xX5_leastGuards_9, xX5_leastGuards_10, xX5_leastGuards_11, xX5_leastGuards_15, xX5_leastGuards_16, xX5_leastGuards_19, xX5_leastGuards_21, xX5_leastGuards_24, xX5_leastGuards_25, xX5_leastGuards_28, xX5_leastGuards_29, xX5_leastGuards_32, xX5_leastGuards_33, xX5_leastGuards_36, xX5_leastGuards_38, xX5_leastGuards_41, xX5_leastGuards_42, xX5_leastGuards_45, xX5_leastGuards_46, xX5_leastGuards_49, xX5_leastGuards_51, xX5_leastGuards_54, xX5_leastGuards_56, xX5_leastGuards_57, xX5_leastGuards_60, xX5_leastGuards_63, xX5_leastGuards_65, Bool.false_eq_true, if_true, if_false, kl_i, kl_a, kl_s, kl_u, kl_l, okS_nil, okS_cons, cat_i, cat_a, cat_s, cat_l, Nat.reduceAdd, Nat.reduceLeDiff, Nat.reduceSub, Nat.sub_zero, Nat.sub_self, Nat.zero_add, Nat.le_refl, Nat.zero_le, List.length_cons, List.length_nil, true_and, and_true, true_or, or_true, eq_self, forall_const, true_implies, not_true_eq_false, not_false_eq_true, false_implies, implies_true, false_and, and_false, false_or, or_false, c1]
    refine t_bitCount (by omega) ?_
    simp only [lgM] at hQ
    by_cases hb : bts (nI s) = many
    · simp only [xX5_leastGuards_0, xX5_leastGuards_1, xX5_leastGuards_2, xX5_leastGuards_5, xX5_leastGuards_8, xX5_leastGuards_9, xX5_leastGuards_10, xX5_leastGuards_11, xX5_leastGuards_15, xX5_leastGuards_16, xX5_leastGuards_19, xX5_leastGuards_21, xX5_leastGuards_24, xX5_leastGuards_25, xX5_leastGuards_28, xX5_leastGuards_29, xX5_leastGuards_32, xX5_leastGuards_33, xX5_leastGuards_36, xX5_leastGuards_38, xX5_leastGuards_41, xX5_leastGuards_42, xX5_leastGuards_45, xX5_leastGuards_46, xX5_leastGuards_49, xX5_leastGuards_51, xX5_leastGuards_54, xX5_leastGuards_56, xX5_leastGuards_57, xX5_leastGuards_60, xX5_leastGuards_63, xX5_leastGuards_65, Bool.false_eq_true, if_true, if_false, kl_i, kl_a, kl_s, kl_u, kl_l, okS_nil, okS_cons, cat_i, cat_a, cat_s, cat_l, Nat.reduceAdd, Nat.reduceLeDiff, Nat.reduceSub, Nat.sub_zero, Nat.sub_self, Nat.zero_add, Nat.le_refl, Nat.zero_le, List.length_cons, List.length_nil, true_and, and_true, true_or, or_true, eq_self, forall_const, true_implies, not_true_eq_false, not_false_eq_true, false_implies, implies_true, false_and, and_false, false_or, or_false, hb, H0, F0, F1, F2, F3, F4, F5, F6, F7, P33.1, P39.1, P45.1]
      refine t_start hw0 h7 hn hs (a' := a) (L := fun _ => False) (fun _ _ => rfl) (fun _ _ h => h.elim) (fun q ht => ?_)
      simp only [xX5_leastGuards_0, xX5_leastGuards_1, xX5_leastGuards_2, xX5_leastGuards_5, xX5_leastGuards_8, xX5_leastGuards_9, xX5_leastGuards_10, xX5_leastGuards_11, xX5_leastGuards_15, xX5_leastGuards_16, xX5_leastGuards_19, xX5_leastGuards_21, xX5_leastGuards_24, xX5_leastGuards_25, xX5_leastGuards_28, xX5_leastGuards_29, xX5_leastGuards_32, xX5_leastGuards_33, xX5_leastGuards_36, xX5_leastGuards_38, xX5_leastGuards_41, xX5_leastGuards_42, xX5_leastGuards_45, xX5_leastGuards_46, xX5_leastGuards_49, xX5_leastGuards_51, xX5_leastGuards_54, xX5_leastGuards_56, xX5_leastGuards_57, xX5_leastGuards_60, xX5_leastGuards_63, xX5_leastGuards_65, Bool.false_eq_true, if_true, if_false, kl_i, kl_a, kl_s, kl_u, kl_l, okS_nil, okS_cons, cat_i, cat_a, cat_s, cat_l, Nat.reduceAdd, Nat.reduceLeDiff, Nat.reduceSub, Nat.sub_zero, Nat.sub_self, Nat.zero_add, Nat.le_refl, Nat.zero_le, List.length_cons, List.length_nil, true_and, and_true, true_or, or_true, eq_self, forall_const, true_implies, not_true_eq_false, not_false_eq_true, false_implies, implies_true, false_and, and_false, false_or, or_false, H0, F0, F1, F2, F3, F4, F5, F6, F7, P33.1, P39.1, P45.1, vputP_0]
      have ht4 := tri_4 (nI s) h7 ht
      refine t_firstLack P45 ht4.2.1 h7 hn100 ?_
      have ef := tri_fs h7 n 0 _ _ ht4
      rw [ef]
      by_cases ho : (liM N n 0 (upd a 4 (nI s))).1 = -1000000
      · have ho' : okG N n a s = true := decide_eq_true ho
        simp only [xX5_leastGuards_0, xX5_leastGuards_1, xX5_leastGuards_2, xX5_leastGuards_5, xX5_leastGuards_8, xX5_leastGuards_9, xX5_leastGuards_10, xX5_leastGuards_11, xX5_leastGuards_15, xX5_leastGuards_16, xX5_leastGuards_19, xX5_leastGuards_21, xX5_leastGuards_24, xX5_leastGuards_25, xX5_leastGuards_28, xX5_leastGuards_29, xX5_leastGuards_32, xX5_leastGuards_33, xX5_leastGuards_36, xX5_leastGuards_38, xX5_leastGuards_41, xX5_leastGuards_42, xX5_leastGuards_45, xX5_leastGuards_46, xX5_leastGuards_49, xX5_leastGuards_51, xX5_leastGuards_54, xX5_leastGuards_56, xX5_leastGuards_57, xX5_leastGuards_60, xX5_leastGuards_63, xX5_leastGuards_65, Bool.false_eq_true, if_true, if_false, kl_i, kl_a, kl_s, kl_u, kl_l, okS_nil, okS_cons, cat_i, cat_a, cat_s, cat_l, Nat.reduceAdd, Nat.reduceLeDiff, Nat.reduceSub, Nat.sub_zero, Nat.sub_self, Nat.zero_add, Nat.le_refl, Nat.zero_le, List.length_cons, List.length_nil, true_and, and_true, true_or, or_true, eq_self, forall_const, true_implies, not_true_eq_false, not_false_eq_true, false_implies, implies_true, false_and, and_false, false_or, or_false, hb, ho, ho'] at hQ ⊢
        exact hQ _ (scr_45 _ hs)
      · have ho' : (okG N n a s = true) = False := eq_false (fun h => ho (of_decide_eq_true h))
        simp only [xX5_leastGuards_0, xX5_leastGuards_1, xX5_leastGuards_2, xX5_leastGuards_5, xX5_leastGuards_8, xX5_leastGuards_9, xX5_leastGuards_10, xX5_leastGuards_11, xX5_leastGuards_15, xX5_leastGuards_16, xX5_leastGuards_19, xX5_leastGuards_21, xX5_leastGuards_24, xX5_leastGuards_25, xX5_leastGuards_28, xX5_leastGuards_29, xX5_leastGuards_32, xX5_leastGuards_33, xX5_leastGuards_36, xX5_leastGuards_38, xX5_leastGuards_41, xX5_leastGuards_42, xX5_leastGuards_45, xX5_leastGuards_46, xX5_leastGuards_49, xX5_leastGuards_51, xX5_leastGuards_54, xX5_leastGuards_56, xX5_leastGuards_57, xX5_leastGuards_60, xX5_leastGuards_63, xX5_leastGuards_65, Bool.false_eq_true, if_true, if_false, kl_i, kl_a, kl_s, kl_u, kl_l, okS_nil, okS_cons, cat_i, cat_a, cat_s, cat_l, Nat.reduceAdd, Nat.reduceLeDiff, Nat.reduceSub, Nat.sub_zero, Nat.sub_self, Nat.zero_add, Nat.le_refl, Nat.zero_le, List.length_cons, List.length_nil, true_and, and_true, true_or, or_true, eq_self, forall_const, true_implies, not_true_eq_false, not_false_eq_true, false_implies, implies_true, false_and, and_false, false_or, or_false, hb, ho, ho', nI1] at hQ ⊢
        exact ih (s + 1) _ (by omega) (scr_45 _ hs) hQ
    · simp only [xX5_leastGuards_0, xX5_leastGuards_1, xX5_leastGuards_2, xX5_leastGuards_5, xX5_leastGuards_8, xX5_leastGuards_9, xX5_leastGuards_10, xX5_leastGuards_11, xX5_leastGuards_15, xX5_leastGuards_16, xX5_leastGuards_19, xX5_leastGuards_21, xX5_leastGuards_24, xX5_leastGuards_25, xX5_leastGuards_28, xX5_leastGuards_29, xX5_leastGuards_32, xX5_leastGuards_33, xX5_leastGuards_36, xX5_leastGuards_38, xX5_leastGuards_41, xX5_leastGuards_42, xX5_leastGuards_45, xX5_leastGuards_46, xX5_leastGuards_49, xX5_leastGuards_51, xX5_leastGuards_54, xX5_leastGuards_56, xX5_leastGuards_57, xX5_leastGuards_60, xX5_leastGuards_63, xX5_leastGuards_65, Bool.false_eq_true, if_true, if_false, kl_i, kl_a, kl_s, kl_u, kl_l, okS_nil, okS_cons, cat_i, cat_a, cat_s, cat_l, Nat.reduceAdd, Nat.reduceLeDiff, Nat.reduceSub, Nat.sub_zero, Nat.sub_self, Nat.zero_add, Nat.le_refl, Nat.zero_le, List.length_cons, List.length_nil, true_and, and_true, true_or, or_true, eq_self, forall_const, true_implies, not_true_eq_false, not_false_eq_true, false_implies, implies_true, false_and, and_false, false_or, or_false, hb, nI1] at hQ ⊢
      exact ih (s + 1) _ (by omega) hs hQ
theorem t_leastGuards {K : Cx} {d : Nat} {σ : Sg} {m0 m : Mm} {l : Ml} {N n : Nat} {a : Nat → Int32} {many : Int32} {Q : Rt} (hw : wfN σ) (h7 : N ≤ 7) (hn100 : n ≤ 100) (hn : nowH N m0 a) (hs : scr m0 m) (hQ : ∀ m', scr m0 m' → Q (lgM N n a many (2 ^ N) 0) σ m' l) : CT K (d + 6) YX5_leastGuards [.ref 0, .int many, .int (nI n)] σ m l Q := by
  have hw0 := hw
  obtain ⟨H0, F0, F1, F2, F3, F4, F5, F6, F7, P33, P39, P45⟩ := hw
  have e8 : m 33 8 = nI N := (nowH_scr hs hn).2.1
  refine kX5_leastGuards ?_
  simp only [xX5_leastGuards_0, xX5_leastGuards_1, xX5_leastGuards_2, xX5_leastGuards_5, xX5_leastGuards_8, xX5_leastGuards_9, xX5_leastGuards_10, xX5_leastGuards_11, xX5_leastGuards_15, xX5_leastGuards_16, xX5_leastGuards_19, xX5_leastGuards_21, xX5_leastGuards_24, xX5_leastGuards_25, xX5_leastGuards_28, xX5_leastGuards_29, xX5_leastGuards_32, xX5_leastGuards_33, xX5_leastGuards_36, xX5_leastGuards_38, xX5_leastGuards_41, xX5_leastGuards_42, xX5_leastGuards_45, xX5_leastGuards_46, xX5_leastGuards_49, xX5_leastGuards_51, xX5_leastGuards_54, xX5_leastGuards_56, xX5_leastGuards_57, xX5_leastGuards_60, xX5_leastGuards_63, xX5_leastGuards_65, Bool.false_eq_true, if_true, if_false, kl_i, kl_a, kl_s, kl_u, kl_l, okS_nil, okS_cons, cat_i, cat_a, cat_s, cat_l, Nat.reduceAdd, Nat.reduceLeDiff, Nat.reduceSub, Nat.sub_zero, Nat.sub_self, Nat.zero_add, Nat.le_refl, Nat.zero_le, List.length_cons, List.length_nil, true_and, and_true, true_or, or_true, eq_self, forall_const, true_implies, not_true_eq_false, not_false_eq_true, false_implies, implies_true, false_and, and_false, false_or, or_false, H0, F0, F1, F2, F3, F4, F5, F6, F7, P33.1, P39.1, P45.1, e8, shN N (by omega)]
  exact l_lg hw0 h7 hn100 hn _ 0 m (by omega) hs hQ
/-- a night in which only those of a set draw -/
def dsM (N : Nat) (s : Int32) : Nat → Nat → (Nat → Int32) → Nat → Int32
  | _, 0, a => a
  | v, k + 1, a => dsM N s (v + 1) k (if gd s (nI v) then dwM a v (nxM N v) else a)
theorem ds_rel {N : Nat} {q : Mm} {dr : Int32} (h7 : N ≤ 7) : ∀ (k v : Nat) (a : Nat → Int32) (f : Nat → Int32), v + k = N → q 0 6 = a 0 → q 0 7 = a 1 → q 0 10 = a 4 → (∀ w, w < N → q 1 w = a (5 + w)) → (∀ w, w < N → f w = a (26 + w)) →
    ∀ w, w < N → ngL N q dr v k f w = dsM N dr v k a (26 + w) := by
  intro k
  induction k with
  | zero => intro v a f _ _ _ _ _ hf; exact hf
  | succ k ih =>
    intro v a f hv h0 h1 h4 hk hf
    have hn : nxM N v < 7 := by unfold nxM; split <;> omega
    have hd := dw_rel (dr := dr) h7 (by omega : v < N) h0 h1 h4 hk hf
    simp only [ngL, dsM]
    have o : ∀ j, j < 26 → (if gd dr (nI v) then dwM a v (nxM N v) else a) j = a j := fun j hj => by
      split
      · exact dwM_o (by omega) hn (by omega)
      · rfl
    exact ih (v + 1) _ _ (by omega) (by rw [o 0 (by omega)]; exact h0) (by rw [o 1 (by omega)]; exact h1) (by rw [o 4 (by omega)]; exact h4) (fun w hw => by rw [o (5 + w) (by omega)]; exact hk w hw) hd
def wlM (N : Nat) (a g : Nat → Int32) (s : Int32) : Bool := sameF (fun v => dsM N s 0 N a (26 + v)) g 0 N
theorem l_wl {K : Cx} {d : Nat} {σ : Sg} {m : Mm} {l : Ml} {N o : Nat} {s : Int32} {q : Mm} {Q : Rt} (hw : wfN σ) (h7 : N ≤ 7) (ho : isRw σ o) (h39 : o + 1 < 39) (hN : q 0 8 = nI N) : ∀ (k v : Nat), v + k = N → Q (if sameF (q 2) (m (o + 1)) v k then 1 else 0) σ (putP m 45 q) l → WX (tX5_wouldLeave K (d + 3)) Q (14, [.ref 0, .int s, .ref o, .int (nI v)], [], (0, 0), σ, putP m 45 q, l) := by
  obtain ⟨H0, F0, F1, F2, F3, F4, F5, F6, F7, P33, P39, P45⟩ := hw
  obtain ⟨w1, w2, w3, w4⟩ := ho
  obtain ⟨hO, r0, r1, r2, r3, r4, o1, o2, o3, o4, o5, l1, l2, l3, l4, l5⟩ := P45
  intro k
  induction k with
  | zero =>
    intro v hv hQ
    have c1 : (nI v < nI N) = False := (ltN (by omega) (by omega)).trans (eq_false (by omega))
    rw [xX5_wouldLeave_14]
    simp only [xX5_wouldLeave_0, xX5_wouldLeave_1, xX5_wouldLeave_4, xX5_wouldLeave_5, xX5_wouldLeave_8, xX5_wouldLeave_9, xX5_wouldLeave_12, xX5_wouldLeave_13, xX5_wouldLeave_15, xX5_wouldLeave_16, xX5_wouldLeave_19, xX5_wouldLeave_22, xX5_wouldLeave_25, xX5_wouldLeave_26, xX5_wouldLeave_29, xX5_wouldLeave_32, xX5_wouldLeave_33, xX5_wouldLeave_34, xX5_wouldLeave_35, xX5_wouldLeave_38, xX5_wouldLeave_39, xX5_wouldLeave_40, xX5_wouldLeave_43, xX5_wouldLeave_44, xX5_wouldLeave_45, xX5_wouldLeave_48, xX5_wouldLeave_51, xX5_wouldLeave_52, Bool.false_eq_true, if_true, if_false, kl_i, kl_a, kl_s, kl_u, kl_l, okS_nil, okS_cons, cat_i, cat_a, cat_s, cat_l, Nat.reduceAdd, Nat.reduceLeDiff, Nat.reduceSub, Nat.sub_zero, Nat.sub_self, Nat.zero_add, Nat.le_refl, Nat.zero_le, List.length_cons, List.length_nil, true_and, and_true, true_or, or_true, eq_self, forall_const, true_implies, not_true_eq_false, not_false_eq_true, false_implies, implies_true, false_and, and_false, false_or, or_false, c1, H0, F4, hO, putP_0, hN, i10]
    exact hQ
  | succ k ih =>
    intro v hv hQ
    have c1 : (nI v < nI N) = True := (ltN (by omega) (by omega)).trans (eq_true (by omega))
    have hcv := clN (v := v) (by omega)
    have hiv := inN (v := v) (n := 7) (by omega) (by omega)
    have hi40 := inN (v := v) (n := 40) (by omega) (by omega)
    have eo : putP m 45 q (o + 1) = m (o + 1) := putP_o m q (by omega)
    rw [xX5_wouldLeave_14]
    simp only [xX5_wouldLeave_0, xX5_wouldLeave_1, xX5_wouldLeave_4, xX5_wouldLeave_5, xX5_wouldLeave_8, xX5_wouldLeave_9, xX5_wouldLeave_12, xX5_wouldLeave_13, xX5_wouldLeave_15, xX5_wouldLeave_16, xX5_wouldLeave_19, xX5_wouldLeave_22, xX5_wouldLeave_25, xX5_wouldLeave_26, xX5_wouldLeave_29, xX5_wouldLeave_32, xX5_wouldLeave_33, xX5_wouldLeave_34, xX5_wouldLeave_35, xX5_wouldLeave_38, xX5_wouldLeave_39, xX5_wouldLeave_40, xX5_wouldLeave_43, xX5_wouldLeave_44, xX5_wouldLeave_45, xX5_wouldLeave_48, xX5_wouldLeave_51, xX5_wouldLeave_52, Bool.false_eq_true, if_true, if_false, kl_i, kl_a, kl_s, kl_u, kl_l, okS_nil, okS_cons, cat_i, cat_a, cat_s, cat_l, Nat.reduceAdd, Nat.reduceLeDiff, Nat.reduceSub, Nat.sub_zero, Nat.sub_self, Nat.zero_add, Nat.le_refl, Nat.zero_le, List.length_cons, List.length_nil, true_and, and_true, true_or, or_true, eq_self, forall_const, true_implies, not_true_eq_false, not_false_eq_true, false_implies, implies_true, false_and, and_false, false_or, or_false, c1, H0, F4, hO, putP_0, hN, r1, o2, l2, w1, w2, w3, w4, hcv, hiv, hi40, putP_2, eo]
    simp only [sameF] at hQ
    by_cases h : q 2 v = m (o + 1) v
    · simp only [h, xX5_wouldLeave_0, xX5_wouldLeave_1, xX5_wouldLeave_4, xX5_wouldLeave_5, xX5_wouldLeave_8, xX5_wouldLeave_9, xX5_wouldLeave_12, xX5_wouldLeave_13, xX5_wouldLeave_15, xX5_wouldLeave_16, xX5_wouldLeave_19, xX5_wouldLeave_22, xX5_wouldLeave_25, xX5_wouldLeave_26, xX5_wouldLeave_29, xX5_wouldLeave_32, xX5_wouldLeave_33, xX5_wouldLeave_34, xX5_wouldLeave_35, xX5_wouldLeave_38, xX5_wouldLeave_39, xX5_wouldLeave_40, xX5_wouldLeave_43, xX5_wouldLeave_44, xX5_wouldLeave_45, xX5_wouldLeave_48, xX5_wouldLeave_51, xX5_wouldLeave_52, Bool.false_eq_true, if_true, if_false, kl_i, kl_a, kl_s, kl_u, kl_l, okS_nil, okS_cons, cat_i, cat_a, cat_s, cat_l, Nat.reduceAdd, Nat.reduceLeDiff, Nat.reduceSub, Nat.sub_zero, Nat.sub_self, Nat.zero_add, Nat.le_refl, Nat.zero_le, List.length_cons, List.length_nil, true_and, and_true, true_or, or_true, eq_self, forall_const, true_implies, not_true_eq_false, not_false_eq_true, false_implies, implies_true, false_and, and_false, false_or, or_false, nI1] at hQ ⊢
      exact ih (v + 1) (by omega) hQ
    · simp only [h, xX5_wouldLeave_0, xX5_wouldLeave_1, xX5_wouldLeave_4, xX5_wouldLeave_5, xX5_wouldLeave_8, xX5_wouldLeave_9, xX5_wouldLeave_12, xX5_wouldLeave_13, xX5_wouldLeave_15, xX5_wouldLeave_16, xX5_wouldLeave_19, xX5_wouldLeave_22, xX5_wouldLeave_25, xX5_wouldLeave_26, xX5_wouldLeave_29, xX5_wouldLeave_32, xX5_wouldLeave_33, xX5_wouldLeave_34, xX5_wouldLeave_35, xX5_wouldLeave_38, xX5_wouldLeave_39, xX5_wouldLeave_40, xX5_wouldLeave_43, xX5_wouldLeave_44, xX5_wouldLeave_45, xX5_wouldLeave_48, xX5_wouldLeave_51, xX5_wouldLeave_52, Bool.false_eq_true, if_true, if_false, kl_i, kl_a, kl_s, kl_u, kl_l, okS_nil, okS_cons, cat_i, cat_a, cat_s, cat_l, Nat.reduceAdd, Nat.reduceLeDiff, Nat.reduceSub, Nat.sub_zero, Nat.sub_self, Nat.zero_add, Nat.le_refl, Nat.zero_le, List.length_cons, List.length_nil, true_and, and_true, true_or, or_true, eq_self, forall_const, true_implies, not_true_eq_false, not_false_eq_true, false_implies, implies_true, false_and, and_false, false_or, or_false] at hQ ⊢
      exact hQ
theorem t_wouldLeave {K : Cx} {d : Nat} {σ : Sg} {m0 m : Mm} {l : Ml} {N o : Nat} {a : Nat → Int32} {s : Int32} {Q : Rt} (hw : wfN σ) (h7 : N ≤ 7) (hn : nowH N m0 a) (hs : scr m0 m) (ho : isRw σ o) (h39 : o + 1 < 39) (hQ : ∀ m', scr m0 m' → Q (if wlM N a (m0 (o + 1)) s then 1 else 0) σ m' l) : CT K (d + 4) YX5_wouldLeave [.ref 0, .int s, .ref o] σ m l Q := by
  have hw0 := hw
  obtain ⟨H0, F0, F1, F2, F3, F4, F5, F6, F7, P33, P39, P45⟩ := hw
  refine kX5_wouldLeave ?_
  simp only [xX5_wouldLeave_0, xX5_wouldLeave_1, xX5_wouldLeave_4, xX5_wouldLeave_5, xX5_wouldLeave_8, xX5_wouldLeave_9, xX5_wouldLeave_12, xX5_wouldLeave_13, xX5_wouldLeave_15, xX5_wouldLeave_16, xX5_wouldLeave_19, xX5_wouldLeave_22, xX5_wouldLeave_25, xX5_wouldLeave_26, xX5_wouldLeave_29, xX5_wouldLeave_32, xX5_wouldLeave_33, xX5_wouldLeave_34, xX5_wouldLeave_35, xX5_wouldLeave_38, xX5_wouldLeave_39, xX5_wouldLeave_40, xX5_wouldLeave_43, xX5_wouldLeave_44, xX5_wouldLeave_45, xX5_wouldLeave_48, xX5_wouldLeave_51, xX5_wouldLeave_52, Bool.false_eq_true, if_true, if_false, kl_i, kl_a, kl_s, kl_u, kl_l, okS_nil, okS_cons, cat_i, cat_a, cat_s, cat_l, Nat.reduceAdd, Nat.reduceLeDiff, Nat.reduceSub, Nat.sub_zero, Nat.sub_self, Nat.zero_add, Nat.le_refl, Nat.zero_le, List.length_cons, List.length_nil, true_and, and_true, true_or, or_true, eq_self, forall_const, true_implies, not_true_eq_false, not_false_eq_true, false_implies, implies_true, false_and, and_false, false_or, or_false, H0, F0, F1, F2, F3, F4, F5, F6, F7, P33.1, P39.1, P45.1]
  refine t_start hw0 h7 hn hs (a' := a) (L := fun _ => False) (fun _ _ => rfl) (fun _ _ h => h.elim) (fun q ht => ?_)
  simp only [xX5_wouldLeave_0, xX5_wouldLeave_1, xX5_wouldLeave_4, xX5_wouldLeave_5, xX5_wouldLeave_8, xX5_wouldLeave_9, xX5_wouldLeave_12, xX5_wouldLeave_13, xX5_wouldLeave_15, xX5_wouldLeave_16, xX5_wouldLeave_19, xX5_wouldLeave_22, xX5_wouldLeave_25, xX5_wouldLeave_26, xX5_wouldLeave_29, xX5_wouldLeave_32, xX5_wouldLeave_33, xX5_wouldLeave_34, xX5_wouldLeave_35, xX5_wouldLeave_38, xX5_wouldLeave_39, xX5_wouldLeave_40, xX5_wouldLeave_43, xX5_wouldLeave_44, xX5_wouldLeave_45, xX5_wouldLeave_48, xX5_wouldLeave_51, xX5_wouldLeave_52, Bool.false_eq_true, if_true, if_false, kl_i, kl_a, kl_s, kl_u, kl_l, okS_nil, okS_cons, cat_i, cat_a, cat_s, cat_l, Nat.reduceAdd, Nat.reduceLeDiff, Nat.reduceSub, Nat.sub_zero, Nat.sub_self, Nat.zero_add, Nat.le_refl, Nat.zero_le, List.length_cons, List.length_nil, true_and, and_true, true_or, or_true, eq_self, forall_const, true_implies, not_true_eq_false, not_false_eq_true, false_implies, implies_true, false_and, and_false, false_or, or_false, H0, F0, F1, F2, F3, F4, F5, F6, F7, P33.1, P39.1, P45.1]
  refine t_passNight P45 ht.2.1 h7 ?_
  refine l_wl (q := setR q 2 (ngL N q s 0 N (q 2))) hw0 h7 ho h39 (by exact ht.2.1) N 0 (by omega) ?_
  have e : sameF (setR q 2 (ngL N q s 0 N (q 2)) 2) (m (o + 1)) 0 N = wlM N a (m0 (o + 1)) s := by
    refine sameF_c N 0 (fun w _ hw => ⟨?_, ?_⟩)
    · rw [setR_s]
      exact ds_rel h7 N 0 a (q 2) (by omega) ht.1.1 ht.1.2.1 ht.1.2.2.2.2.1 (fun w hw => (ht.1.2.2.2.2.2.1 w hw).1) (fun w hw => (ht.1.2.2.2.2.2.1 w hw).2.2.2) w (by omega)
    · rw [hs _ (by omega)]
  rw [e]
  exact hQ _ (scr_45 _ hs)
def dcM (P : Nat → Bool) : Nat → Nat → Int32 → Int32
  | 0, _, c => c
  | k + 1, s, c => dcM P k (s + 1) (if P s then c + 1 else c)
def dfM (P : Nat → Bool) : Nat → Nat → Int32
  | 0, _ => -1000000
  | k + 1, s => if P s then nI s else dfM P k (s + 1)
theorem l_dc {K : Cx} {d : Nat} {σ : Sg} {m0 : Mm} {l : Ml} {N o : Nat} {a : Nat → Int32} {Q : Rt} (hw : wfN σ) (h7 : N ≤ 7) (hn : nowH N m0 a) (ho : isRw σ o) (h39 : o + 1 < 39) : ∀ (k s : Nat) (m : Mm) (c : Int32), s + k = 2 ^ N → scr m0 m → (∀ m', scr m0 m' → Q (dcM (fun s => wlM N a (m0 (o + 1)) (nI s)) k s c) σ m' l) → WX (tX5_drawingSets K (d + 4)) Q (15, [.ref 0, .ref o, .int (nI (2 ^ N)), .int c, .int (nI s)], [], (0, 0), σ, m, l) := by
  have hp := p27 N (by omega)
  intro k
  induction k with
  | zero =>
    intro s m c hv hs hQ
    have c1 : (nI s < nI (2 ^ N)) = False := (ltN (by omega) (by omega)).trans (eq_false (by omega))
    rw [xX5_drawingSets_15]
    simp only [xX5_drawingSets_0, xX5_drawingSets_1, xX5_drawingSets_2, xX5_drawingSets_5, xX5_drawingSets_8, xX5_drawingSets_9, xX5_drawingSets_10, xX5_drawingSets_11, xX5_drawingSets_12, xX5_drawingSets_13, xX5_drawingSets_17, xX5_drawingSets_18, xX5_drawingSets_21, xX5_drawingSets_22, xX5_drawingSets_24, xX5_drawingSets_25, xX5_drawingSets_28, xX5_drawingSets_31, xX5_drawingSets_34, xX5_drawingSets_37, xX5_drawingSets_40, xX5_drawingSets_41, Bool.false_eq_true, if_true, if_false, kl_i, kl_a, kl_s, kl_u, kl_l, okS_nil, okS_cons, cat_i, cat_a, cat_s, cat_l, Nat.reduceAdd, Nat.reduceLeDiff, Nat.reduceSub, Nat.sub_zero, Nat.sub_self, Nat.zero_add, Nat.le_refl, Nat.zero_le, List.length_cons, List.length_nil, true_and, and_true, true_or, or_true, eq_self, forall_const, true_implies, not_true_eq_false, not_false_eq_true, false_implies, implies_true, false_and, and_false, false_or, or_false, c1]
    exact hQ _ hs
  | succ k ih =>
    intro s m c hv hs hQ
    have c1 : (nI s < nI (2 ^ N)) = True := (ltN (by omega) (by omega)).trans (eq_true (by omega))
    rw [xX5_drawingSets_15]
    simp only [xX5_drawingSets_0, xX5_drawingSets_1, xX5_drawingSets_2, xX5_drawingSets_5, xX5_drawingSets_8, xX5_drawingSets_9, xX5_drawingSets_10, xX5_drawingSets_11, xX5_drawingSets_12, xX5_drawingSets_13, xX5_drawingSets_17, xX5_drawingSets_18, xX5_drawingSets_21, xX5_drawingSets_22, xX5_drawingSets_24, xX5_drawingSets_25, xX5_drawingSets_28, xX5_drawingSets_31, xX5_drawingSets_34, xX5_drawingSets_37, xX5_drawingSets_40, xX5_drawingSets_41, Bool.false_eq_true, if_true, if_false, kl_i, kl_a, kl_s, kl_u, kl_l, okS_nil, okS_cons, cat_i, cat_a, cat_s, cat_l, Nat.reduceAdd, Nat.reduceLeDiff, Nat.reduceSub, Nat.sub_zero, Nat.sub_self, Nat.zero_add, Nat.le_refl, Nat.zero_le, List.length_cons, List.length_nil, true_and, and_true, true_or, or_true, eq_self, forall_const, true_implies, not_true_eq_false, not_false_eq_true, false_implies, implies_true, false_and, and_false, false_or, or_false, c1, hw.1]
    refine t_wouldLeave hw h7 hn hs ho h39 (fun m' hs' => ?_)
    simp only [dcM] at hQ
    cases h : wlM N a (m0 (o + 1)) (nI s)
    · simp only [xX5_drawingSets_0, xX5_drawingSets_1, xX5_drawingSets_2, xX5_drawingSets_5, xX5_drawingSets_8, xX5_drawingSets_9, xX5_drawingSets_10, xX5_drawingSets_11, xX5_drawingSets_12, xX5_drawingSets_13, xX5_drawingSets_17, xX5_drawingSets_18, xX5_drawingSets_21, xX5_drawingSets_22, xX5_drawingSets_24, xX5_drawingSets_25, xX5_drawingSets_28, xX5_drawingSets_31, xX5_drawingSets_34, xX5_drawingSets_37, xX5_drawingSets_40, xX5_drawingSets_41, Bool.false_eq_true, if_true, if_false, kl_i, kl_a, kl_s, kl_u, kl_l, okS_nil, okS_cons, cat_i, cat_a, cat_s, cat_l, Nat.reduceAdd, Nat.reduceLeDiff, Nat.reduceSub, Nat.sub_zero, Nat.sub_self, Nat.zero_add, Nat.le_refl, Nat.zero_le, List.length_cons, List.length_nil, true_and, and_true, true_or, or_true, eq_self, forall_const, true_implies, not_true_eq_false, not_false_eq_true, false_implies, implies_true, false_and, and_false, false_or, or_false, h, nI1] at hQ ⊢
      exact ih (s + 1) _ _ (by omega) hs' hQ
    · simp only [xX5_drawingSets_0, xX5_drawingSets_1, xX5_drawingSets_2, xX5_drawingSets_5, xX5_drawingSets_8, xX5_drawingSets_9, xX5_drawingSets_10, xX5_drawingSets_11, xX5_drawingSets_12, xX5_drawingSets_13, xX5_drawingSets_17, xX5_drawingSets_18, xX5_drawingSets_21, xX5_drawingSets_22, xX5_drawingSets_24, xX5_drawingSets_25, xX5_drawingSets_28, xX5_drawingSets_31, xX5_drawingSets_34, xX5_drawingSets_37, xX5_drawingSets_40, xX5_drawingSets_41, Bool.false_eq_true, if_true, if_false, kl_i, kl_a, kl_s, kl_u, kl_l, okS_nil, okS_cons, cat_i, cat_a, cat_s, cat_l, Nat.reduceAdd, Nat.reduceLeDiff, Nat.reduceSub, Nat.sub_zero, Nat.sub_self, Nat.zero_add, Nat.le_refl, Nat.zero_le, List.length_cons, List.length_nil, true_and, and_true, true_or, or_true, eq_self, forall_const, true_implies, not_true_eq_false, not_false_eq_true, false_implies, implies_true, false_and, and_false, false_or, or_false, h, i10, nI1] at hQ ⊢
      exact ih (s + 1) _ _ (by omega) hs' hQ
theorem t_drawingSets {K : Cx} {d : Nat} {σ : Sg} {m0 m : Mm} {l : Ml} {N o : Nat} {a : Nat → Int32} {Q : Rt} (hw : wfN σ) (h7 : N ≤ 7) (hn : nowH N m0 a) (ho : isRw σ o) (h39 : o + 1 < 39) (hs : scr m0 m) (hQ : ∀ m', scr m0 m' → Q (dcM (fun s => wlM N a (m0 (o + 1)) (nI s)) (2 ^ N) 0 0) σ m' l) : CT K (d + 5) YX5_drawingSets [.ref 0, .ref o] σ m l Q := by
  have hw0 := hw
  obtain ⟨H0, F0, F1, F2, F3, F4, F5, F6, F7, P33, P39, P45⟩ := hw
  have e8 : m 33 8 = nI N := (nowH_scr hs hn).2.1
  refine kX5_drawingSets ?_
  simp only [xX5_drawingSets_0, xX5_drawingSets_1, xX5_drawingSets_2, xX5_drawingSets_5, xX5_drawingSets_8, xX5_drawingSets_9, xX5_drawingSets_10, xX5_drawingSets_11, xX5_drawingSets_12, xX5_drawingSets_13, xX5_drawingSets_17, xX5_drawingSets_18, xX5_drawingSets_21, xX5_drawingSets_22, xX5_drawingSets_24, xX5_drawingSets_25, xX5_drawingSets_28, xX5_drawingSets_31, xX5_drawingSets_34, xX5_drawingSets_37, xX5_drawingSets_40, xX5_drawingSets_41, Bool.false_eq_true, if_true, if_false, kl_i, kl_a, kl_s, kl_u, kl_l, okS_nil, okS_cons, cat_i, cat_a, cat_s, cat_l, Nat.reduceAdd, Nat.reduceLeDiff, Nat.reduceSub, Nat.sub_zero, Nat.sub_self, Nat.zero_add, Nat.le_refl, Nat.zero_le, List.length_cons, List.length_nil, true_and, and_true, true_or, or_true, eq_self, forall_const, true_implies, not_true_eq_false, not_false_eq_true, false_implies, implies_true, false_and, and_false, false_or, or_false, H0, F0, F1, F2, F3, F4, F5, F6, F7, P33.1, P39.1, P45.1, e8, shN N (by omega)]
  exact l_dc hw0 h7 hn ho h39 _ 0 m 0 (by omega) hs hQ
theorem l_df {K : Cx} {d : Nat} {σ : Sg} {m0 : Mm} {l : Ml} {N o : Nat} {a : Nat → Int32} {Q : Rt} (hw : wfN σ) (h7 : N ≤ 7) (hn : nowH N m0 a) (ho : isRw σ o) (h39 : o + 1 < 39) : ∀ (k s : Nat) (m : Mm), s + k = 2 ^ N → scr m0 m → (∀ m', scr m0 m' → Q (dfM (fun s => wlM N a (m0 (o + 1)) (nI s)) k s) σ m' l) → WX (tX5_leastDrawingSet K (d + 4)) Q (12, [.ref 0, .ref o, .int (nI (2 ^ N)), .int (nI s)], [], (0, 0), σ, m, l) := by
  have hp := p27 N (by omega)
  intro k
  induction k with
  | zero =>
    intro s m hv hs hQ
    have c1 : (nI s < nI (2 ^ N)) = False := (ltN (by omega) (by omega)).trans (eq_false (by omega))
    rw [xX5_leastDrawingSet_12]
    simp only [xX5_leastDrawingSet_0, xX5_leastDrawingSet_1, xX5_leastDrawingSet_2, xX5_leastDrawingSet_5, xX5_leastDrawingSet_8, xX5_leastDrawingSet_9, xX5_leastDrawingSet_10, xX5_leastDrawingSet_11, xX5_leastDrawingSet_13, xX5_leastDrawingSet_14, xX5_leastDrawingSet_17, xX5_leastDrawingSet_18, xX5_leastDrawingSet_19, xX5_leastDrawingSet_20, xX5_leastDrawingSet_23, xX5_leastDrawingSet_26, xX5_leastDrawingSet_27, xX5_leastDrawingSet_28, xX5_leastDrawingSet_31, xX5_leastDrawingSet_34, xX5_leastDrawingSet_36, Bool.false_eq_true, if_true, if_false, kl_i, kl_a, kl_s, kl_u, kl_l, okS_nil, okS_cons, cat_i, cat_a, cat_s, cat_l, Nat.reduceAdd, Nat.reduceLeDiff, Nat.reduceSub, Nat.sub_zero, Nat.sub_self, Nat.zero_add, Nat.le_refl, Nat.zero_le, List.length_cons, List.length_nil, true_and, and_true, true_or, or_true, eq_self, forall_const, true_implies, not_true_eq_false, not_false_eq_true, false_implies, implies_true, false_and, and_false, false_or, or_false, c1]
    exact hQ _ hs
  | succ k ih =>
    intro s m hv hs hQ
    have c1 : (nI s < nI (2 ^ N)) = True := (ltN (by omega) (by omega)).trans (eq_true (by omega))
    rw [xX5_leastDrawingSet_12]
    simp only [xX5_leastDrawingSet_0, xX5_leastDrawingSet_1, xX5_leastDrawingSet_2, xX5_leastDrawingSet_5, xX5_leastDrawingSet_8, xX5_leastDrawingSet_9, xX5_leastDrawingSet_10, xX5_leastDrawingSet_11, xX5_leastDrawingSet_13, xX5_leastDrawingSet_14, xX5_leastDrawingSet_17, xX5_leastDrawingSet_18, xX5_leastDrawingSet_19, xX5_leastDrawingSet_20, xX5_leastDrawingSet_23, xX5_leastDrawingSet_26, xX5_leastDrawingSet_27, xX5_leastDrawingSet_28, xX5_leastDrawingSet_31, xX5_leastDrawingSet_34, xX5_leastDrawingSet_36, Bool.false_eq_true, if_true, if_false, kl_i, kl_a, kl_s, kl_u, kl_l, okS_nil, okS_cons, cat_i, cat_a, cat_s, cat_l, Nat.reduceAdd, Nat.reduceLeDiff, Nat.reduceSub, Nat.sub_zero, Nat.sub_self, Nat.zero_add, Nat.le_refl, Nat.zero_le, List.length_cons, List.length_nil, true_and, and_true, true_or, or_true, eq_self, forall_const, true_implies, not_true_eq_false, not_false_eq_true, false_implies, implies_true, false_and, and_false, false_or, or_false, c1, hw.1]
    refine t_wouldLeave hw h7 hn hs ho h39 (fun m' hs' => ?_)
    simp only [dfM] at hQ
    cases h : wlM N a (m0 (o + 1)) (nI s)
    · simp only [xX5_leastDrawingSet_0, xX5_leastDrawingSet_1, xX5_leastDrawingSet_2, xX5_leastDrawingSet_5, xX5_leastDrawingSet_8, xX5_leastDrawingSet_9, xX5_leastDrawingSet_10, xX5_leastDrawingSet_11, xX5_leastDrawingSet_13, xX5_leastDrawingSet_14, xX5_leastDrawingSet_17, xX5_leastDrawingSet_18, xX5_leastDrawingSet_19, xX5_leastDrawingSet_20, xX5_leastDrawingSet_23, xX5_leastDrawingSet_26, xX5_leastDrawingSet_27, xX5_leastDrawingSet_28, xX5_leastDrawingSet_31, xX5_leastDrawingSet_34, xX5_leastDrawingSet_36, Bool.false_eq_true, if_true, if_false, kl_i, kl_a, kl_s, kl_u, kl_l, okS_nil, okS_cons, cat_i, cat_a, cat_s, cat_l, Nat.reduceAdd, Nat.reduceLeDiff, Nat.reduceSub, Nat.sub_zero, Nat.sub_self, Nat.zero_add, Nat.le_refl, Nat.zero_le, List.length_cons, List.length_nil, true_and, and_true, true_or, or_true, eq_self, forall_const, true_implies, not_true_eq_false, not_false_eq_true, false_implies, implies_true, false_and, and_false, false_or, or_false, h, nI1] at hQ ⊢
      exact ih (s + 1) _ (by omega) hs' hQ
    · simp only [xX5_leastDrawingSet_0, xX5_leastDrawingSet_1, xX5_leastDrawingSet_2, xX5_leastDrawingSet_5, xX5_leastDrawingSet_8, xX5_leastDrawingSet_9, xX5_leastDrawingSet_10, xX5_leastDrawingSet_11, xX5_leastDrawingSet_13, xX5_leastDrawingSet_14, xX5_leastDrawingSet_17, xX5_leastDrawingSet_18, xX5_leastDrawingSet_19, xX5_leastDrawingSet_20, xX5_leastDrawingSet_23, xX5_leastDrawingSet_26, xX5_leastDrawingSet_27, xX5_leastDrawingSet_28, xX5_leastDrawingSet_31, xX5_leastDrawingSet_34, xX5_leastDrawingSet_36, Bool.false_eq_true, if_true, if_false, kl_i, kl_a, kl_s, kl_u, kl_l, okS_nil, okS_cons, cat_i, cat_a, cat_s, cat_l, Nat.reduceAdd, Nat.reduceLeDiff, Nat.reduceSub, Nat.sub_zero, Nat.sub_self, Nat.zero_add, Nat.le_refl, Nat.zero_le, List.length_cons, List.length_nil, true_and, and_true, true_or, or_true, eq_self, forall_const, true_implies, not_true_eq_false, not_false_eq_true, false_implies, implies_true, false_and, and_false, false_or, or_false, h, i10] at hQ ⊢
      exact hQ _ hs'
theorem t_leastDrawingSet {K : Cx} {d : Nat} {σ : Sg} {m0 m : Mm} {l : Ml} {N o : Nat} {a : Nat → Int32} {Q : Rt} (hw : wfN σ) (h7 : N ≤ 7) (hn : nowH N m0 a) (ho : isRw σ o) (h39 : o + 1 < 39) (hs : scr m0 m) (hQ : ∀ m', scr m0 m' → Q (dfM (fun s => wlM N a (m0 (o + 1)) (nI s)) (2 ^ N) 0) σ m' l) : CT K (d + 5) YX5_leastDrawingSet [.ref 0, .ref o] σ m l Q := by
  have hw0 := hw
  obtain ⟨H0, F0, F1, F2, F3, F4, F5, F6, F7, P33, P39, P45⟩ := hw
  have e8 : m 33 8 = nI N := (nowH_scr hs hn).2.1
  refine kX5_leastDrawingSet ?_
  simp only [xX5_leastDrawingSet_0, xX5_leastDrawingSet_1, xX5_leastDrawingSet_2, xX5_leastDrawingSet_5, xX5_leastDrawingSet_8, xX5_leastDrawingSet_9, xX5_leastDrawingSet_10, xX5_leastDrawingSet_11, xX5_leastDrawingSet_13, xX5_leastDrawingSet_14, xX5_leastDrawingSet_17, xX5_leastDrawingSet_18, xX5_leastDrawingSet_19, xX5_leastDrawingSet_20, xX5_leastDrawingSet_23, xX5_leastDrawingSet_26, xX5_leastDrawingSet_27, xX5_leastDrawingSet_28, xX5_leastDrawingSet_31, xX5_leastDrawingSet_34, xX5_leastDrawingSet_36, Bool.false_eq_true, if_true, if_false, kl_i, kl_a, kl_s, kl_u, kl_l, okS_nil, okS_cons, cat_i, cat_a, cat_s, cat_l, Nat.reduceAdd, Nat.reduceLeDiff, Nat.reduceSub, Nat.sub_zero, Nat.sub_self, Nat.zero_add, Nat.le_refl, Nat.zero_le, List.length_cons, List.length_nil, true_and, and_true, true_or, or_true, eq_self, forall_const, true_implies, not_true_eq_false, not_false_eq_true, false_implies, implies_true, false_and, and_false, false_or, or_false, H0, F0, F1, F2, F3, F4, F5, F6, F7, P33.1, P39.1, P45.1, e8, shN N (by omega)]
  exact l_df hw0 h7 hn ho h39 _ 0 m (by omega) hs hQ
/-- what lacks in n days if v's flow were more -/
def lfM (N n : Nat) (a : Nat → Int32) (v : Nat) (f : Int32) : Int32 := smF (fun w => gosM N n (z3 (upd a (12 + v) (a (12 + v) + f)) N) (33 + w)) 0 N 0
theorem tri_12 {N v : Nat} {q : Mm} {a : Nat → Int32} {L : Nat → Prop} (x : Int32) (h7 : N ≤ 7) (hv : v < N) (h : triQ N q a L) : triQ N (setR q 3 (upd (q 3) v (q 3 v + x))) (upd a (12 + v) (a (12 + v) + x)) L := by
  obtain ⟨⟨e0, e1, e2, e3, e4, e5, e6⟩, e7, e8⟩ := h
  have o : ∀ j, j ≠ 12 + v → upd a (12 + v) (a (12 + v) + x) j = a j := fun j hj => upd_n _ _ hj
  refine ⟨⟨?_, ?_, ?_, ?_, ?_, fun w hw => ⟨?_, ?_, ?_, ?_⟩, fun w hw hl => ?_⟩, e7, e8⟩
  · rw [o 0 (by omega)]; exact e0
  · rw [o 1 (by omega)]; exact e1
  · rw [o 2 (by omega)]; exact e2
  · rw [o 3 (by omega)]; exact e3
  · rw [o 4 (by omega)]; exact e4
  · rw [o _ (by omega)]; exact (e5 w hw).1
  · rw [setR_s]
    by_cases h : w = v
    · subst h; rw [upd_s, upd_s, (e5 w hw).2.1]
    · rw [upd_n _ _ h, o _ (by omega)]; exact (e5 w hw).2.1
  · rw [o _ (by omega)]; exact (e5 w hw).2.2.1
  · rw [o _ (by omega)]; exact (e5 w hw).2.2.2
  · rw [o _ (by omega)]; exact e6 w hw hl
theorem t_lackedWithMoreFlow {K : Cx} {d : Nat} {σ : Sg} {m0 m : Mm} {l : Ml} {N n v : Nat} {f : Int32} {a : Nat → Int32} {Q : Rt} (hw : wfN σ) (h7 : N ≤ 7) (hv : v < N) (hn100 : n ≤ 100) (hn : nowH N m0 a) (hs : scr m0 m) (hQ : ∀ m', scr m0 m' → Q (lfM N n a v f) σ m' l) : CT K (d + 6) YX5_lackedWithMoreFlow [.ref 0, .int (nI v), .int f, .int (nI n)] σ m l Q := by
  have hw0 := hw
  obtain ⟨H0, F0, F1, F2, F3, F4, F5, F6, F7, P33, P39, P45⟩ := hw
  have hcv := clN (v := v) (by omega)
  have hiv := inN (v := v) (n := 7) (by omega) (by omega)
  refine kX5_lackedWithMoreFlow ?_
  simp only [xX5_lackedWithMoreFlow_0, xX5_lackedWithMoreFlow_1, xX5_lackedWithMoreFlow_4, xX5_lackedWithMoreFlow_5, xX5_lackedWithMoreFlow_8, xX5_lackedWithMoreFlow_11, xX5_lackedWithMoreFlow_12, xX5_lackedWithMoreFlow_13, xX5_lackedWithMoreFlow_14, xX5_lackedWithMoreFlow_15, xX5_lackedWithMoreFlow_16, xX5_lackedWithMoreFlow_17, xX5_lackedWithMoreFlow_18, xX5_lackedWithMoreFlow_21, xX5_lackedWithMoreFlow_22, xX5_lackedWithMoreFlow_25, xX5_lackedWithMoreFlow_26, xX5_lackedWithMoreFlow_29, xX5_lackedWithMoreFlow_30, xX5_lackedWithMoreFlow_33, xX5_lackedWithMoreFlow_36, xX5_lackedWithMoreFlow_39, Bool.false_eq_true, if_true, if_false, kl_i, kl_a, kl_s, kl_u, kl_l, okS_nil, okS_cons, cat_i, cat_a, cat_s, cat_l, Nat.reduceAdd, Nat.reduceLeDiff, Nat.reduceSub, Nat.sub_zero, Nat.sub_self, Nat.zero_add, Nat.le_refl, Nat.zero_le, List.length_cons, List.length_nil, true_and, and_true, true_or, or_true, eq_self, forall_const, true_implies, not_true_eq_false, not_false_eq_true, false_implies, implies_true, false_and, and_false, false_or, or_false, H0, F0, F1, F2, F3, F4, F5, F6, F7, P33.1, P39.1, P45.1]
  refine t_start hw0 h7 hn hs (a' := z3 a N) (L := fun _ => True) (fun j hj => if_neg (by omega)) (fun w hw _ => if_pos (by omega)) (fun q ht => ?_)
  have hP := P45
  obtain ⟨hO, r0, r1, r2, r3, r4, o1, o2, o3, o4, o5, l1, l2, l3, l4, l5⟩ := P45
  simp only [xX5_lackedWithMoreFlow_0, xX5_lackedWithMoreFlow_1, xX5_lackedWithMoreFlow_4, xX5_lackedWithMoreFlow_5, xX5_lackedWithMoreFlow_8, xX5_lackedWithMoreFlow_11, xX5_lackedWithMoreFlow_12, xX5_lackedWithMoreFlow_13, xX5_lackedWithMoreFlow_14, xX5_lackedWithMoreFlow_15, xX5_lackedWithMoreFlow_16, xX5_lackedWithMoreFlow_17, xX5_lackedWithMoreFlow_18, xX5_lackedWithMoreFlow_21, xX5_lackedWithMoreFlow_22, xX5_lackedWithMoreFlow_25, xX5_lackedWithMoreFlow_26, xX5_lackedWithMoreFlow_29, xX5_lackedWithMoreFlow_30, xX5_lackedWithMoreFlow_33, xX5_lackedWithMoreFlow_36, xX5_lackedWithMoreFlow_39, Bool.false_eq_true, if_true, if_false, kl_i, kl_a, kl_s, kl_u, kl_l, okS_nil, okS_cons, cat_i, cat_a, cat_s, cat_l, Nat.reduceAdd, Nat.reduceLeDiff, Nat.reduceSub, Nat.sub_zero, Nat.sub_self, Nat.zero_add, Nat.le_refl, Nat.zero_le, List.length_cons, List.length_nil, true_and, and_true, true_or, or_true, eq_self, forall_const, true_implies, not_true_eq_false, not_false_eq_true, false_implies, implies_true, false_and, and_false, false_or, or_false, H0, F4, hO, r0, r1, r2, r3, r4, o1, o2, o3, o4, o5, l1, l2, l3, l4, l5, hcv, hiv, putP_3, vputP_3]
  have ht2 := tri_12 f h7 hv ht
  have ez : upd (z3 a N) (12 + v) (z3 a N (12 + v) + f) = z3 (upd a (12 + v) (a (12 + v) + f)) N := by
    funext j
    unfold z3
    simp only [upd]
    by_cases h : j = 12 + v
    · rw [if_pos h, if_neg (by omega), if_neg (by omega), if_pos h]
    · rw [if_neg h]
      by_cases h2 : 33 ≤ j ∧ j < 33 + N
      · rw [if_pos h2, if_pos h2]
      · rw [if_neg h2, if_neg h2, if_neg h]
  rw [ez] at ht2
  refine t_passDays hP ht2.2.1 h7 hn100 ?_
  have ht3 := tri_days h7 n _ _ ht2
  simp only [xX5_lackedWithMoreFlow_0, xX5_lackedWithMoreFlow_1, xX5_lackedWithMoreFlow_4, xX5_lackedWithMoreFlow_5, xX5_lackedWithMoreFlow_8, xX5_lackedWithMoreFlow_11, xX5_lackedWithMoreFlow_12, xX5_lackedWithMoreFlow_13, xX5_lackedWithMoreFlow_14, xX5_lackedWithMoreFlow_15, xX5_lackedWithMoreFlow_16, xX5_lackedWithMoreFlow_17, xX5_lackedWithMoreFlow_18, xX5_lackedWithMoreFlow_21, xX5_lackedWithMoreFlow_22, xX5_lackedWithMoreFlow_25, xX5_lackedWithMoreFlow_26, xX5_lackedWithMoreFlow_29, xX5_lackedWithMoreFlow_30, xX5_lackedWithMoreFlow_33, xX5_lackedWithMoreFlow_36, xX5_lackedWithMoreFlow_39, Bool.false_eq_true, if_true, if_false, kl_i, kl_a, kl_s, kl_u, kl_l, okS_nil, okS_cons, cat_i, cat_a, cat_s, cat_l, Nat.reduceAdd, Nat.reduceLeDiff, Nat.reduceSub, Nat.sub_zero, Nat.sub_self, Nat.zero_add, Nat.le_refl, Nat.zero_le, List.length_cons, List.length_nil, true_and, and_true, true_or, or_true, eq_self, forall_const, true_implies, not_true_eq_false, not_false_eq_true, false_implies, implies_true, false_and, and_false, false_or, or_false, H0, F4, hO, r0, r1, r2, r3, r4, o1, o2, o3, o4, o5, l1, l2, l3, l4, l5]
  refine t_sum (N := N) hO o5 l5 (by rw [putP_0]; exact ht3.2.1) h7 ?_
  have e : smF (putP m 45 (dysQ N n (setR q 3 (upd (q 3) v (q 3 v + f)))) (45 + 5)) 0 N 0 = lfM N n a v f := by
    refine smF_c N 0 0 (fun w _ hw => ?_)
    rw [putP_5]
    exact ht3.1.2.2.2.2.2.2 w (by omega) trivial
  rw [e]
  exact hQ _ (scr_45 _ hs)
/-- rows that are there -/
def rcL (g : Nat → Bool) : Nat → Nat → Int32 → Int32
  | 0, _, c => c
  | k + 1, r, c => rcL g k (r + 1) (if g r then c + 1 else c)
theorem l_rt {K : Cx} {d : Nat} {σ : Sg} {m : Mm} {l : Ml} {Q : Rt} (hw : wfN σ) (hr : wfR σ) : ∀ (k r : Nat) (c : Int32), r + k = 8 → Q (rcL (fun r => decide (m (2 + 2 * r) 1 ≠ 0)) k r c) σ m l → WX (tX5_rowsThere K d) Q (4, [.ref 0, .int c, .int (nI r)], [], (0, 0), σ, m, l) := by
  obtain ⟨H0, F0, F1, F2, F3, F4, F5, F6, F7, P33, P39, P45⟩ := hw
  obtain ⟨g1, g2, g3⟩ := hr
  intro k
  induction k with
  | zero =>
    intro r c hv hQ
    have c1 : (nI r < 8) = False := (ltN (a := r) (b := 8) (by omega) (by omega)).trans (eq_false (by omega))
    rw [xX5_rowsThere_4]
    simp only [xX5_rowsThere_0, xX5_rowsThere_1, xX5_rowsThere_2, xX5_rowsThere_3, xX5_rowsThere_5, xX5_rowsThere_7, xX5_rowsThere_10, xX5_rowsThere_11, xX5_rowsThere_14, xX5_rowsThere_15, xX5_rowsThere_16, xX5_rowsThere_19, xX5_rowsThere_22, xX5_rowsThere_25, xX5_rowsThere_28, xX5_rowsThere_31, xX5_rowsThere_32, Bool.false_eq_true, if_true, if_false, kl_i, kl_a, kl_s, kl_u, kl_l, okS_nil, okS_cons, cat_i, cat_a, cat_s, cat_l, Nat.reduceAdd, Nat.reduceLeDiff, Nat.reduceSub, Nat.sub_zero, Nat.sub_self, Nat.zero_add, Nat.le_refl, Nat.zero_le, List.length_cons, List.length_nil, true_and, and_true, true_or, or_true, eq_self, forall_const, true_implies, not_true_eq_false, not_false_eq_true, false_implies, implies_true, false_and, and_false, false_or, or_false, c1]
    exact hQ
  | succ k ih =>
    intro r c hv hQ
    have c1 : (nI r < 8) = True := (ltN (a := r) (b := 8) (by omega) (by omega)).trans (eq_true (by omega))
    have hcv := clN (v := r) (by omega)
    have hiv := inN (v := r) (n := 8) (by omega) (by omega)
    obtain ⟨q1, q2⟩ := g3 r (by omega)
    rw [xX5_rowsThere_4]
    simp only [xX5_rowsThere_0, xX5_rowsThere_1, xX5_rowsThere_2, xX5_rowsThere_3, xX5_rowsThere_5, xX5_rowsThere_7, xX5_rowsThere_10, xX5_rowsThere_11, xX5_rowsThere_14, xX5_rowsThere_15, xX5_rowsThere_16, xX5_rowsThere_19, xX5_rowsThere_22, xX5_rowsThere_25, xX5_rowsThere_28, xX5_rowsThere_31, xX5_rowsThere_32, Bool.false_eq_true, if_true, if_false, kl_i, kl_a, kl_s, kl_u, kl_l, okS_nil, okS_cons, cat_i, cat_a, cat_s, cat_l, Nat.reduceAdd, Nat.reduceLeDiff, Nat.reduceSub, Nat.sub_zero, Nat.sub_self, Nat.zero_add, Nat.le_refl, Nat.zero_le, List.length_cons, List.length_nil, true_and, and_true, true_or, or_true, eq_self, forall_const, true_implies, not_true_eq_false, not_false_eq_true, false_implies, implies_true, false_and, and_false, false_or, or_false, c1, H0, F0, g1, g2, hcv, hiv, q1, q2.1]
    simp only [rcL] at hQ
    by_cases h : m (2 + 2 * r) 1 = 0
    · simp only [h, ne_eq, decide_false, xX5_rowsThere_0, xX5_rowsThere_1, xX5_rowsThere_2, xX5_rowsThere_3, xX5_rowsThere_5, xX5_rowsThere_7, xX5_rowsThere_10, xX5_rowsThere_11, xX5_rowsThere_14, xX5_rowsThere_15, xX5_rowsThere_16, xX5_rowsThere_19, xX5_rowsThere_22, xX5_rowsThere_25, xX5_rowsThere_28, xX5_rowsThere_31, xX5_rowsThere_32, Bool.false_eq_true, if_true, if_false, kl_i, kl_a, kl_s, kl_u, kl_l, okS_nil, okS_cons, cat_i, cat_a, cat_s, cat_l, Nat.reduceAdd, Nat.reduceLeDiff, Nat.reduceSub, Nat.sub_zero, Nat.sub_self, Nat.zero_add, Nat.le_refl, Nat.zero_le, List.length_cons, List.length_nil, true_and, and_true, true_or, or_true, eq_self, forall_const, true_implies, not_true_eq_false, not_false_eq_true, false_implies, implies_true, false_and, and_false, false_or, or_false, nI1] at hQ ⊢
      exact ih (r + 1) _ (by omega) hQ
    · simp only [h, ne_eq, decide_true, xX5_rowsThere_0, xX5_rowsThere_1, xX5_rowsThere_2, xX5_rowsThere_3, xX5_rowsThere_5, xX5_rowsThere_7, xX5_rowsThere_10, xX5_rowsThere_11, xX5_rowsThere_14, xX5_rowsThere_15, xX5_rowsThere_16, xX5_rowsThere_19, xX5_rowsThere_22, xX5_rowsThere_25, xX5_rowsThere_28, xX5_rowsThere_31, xX5_rowsThere_32, Bool.false_eq_true, if_true, if_false, kl_i, kl_a, kl_s, kl_u, kl_l, okS_nil, okS_cons, cat_i, cat_a, cat_s, cat_l, Nat.reduceAdd, Nat.reduceLeDiff, Nat.reduceSub, Nat.sub_zero, Nat.sub_self, Nat.zero_add, Nat.le_refl, Nat.zero_le, List.length_cons, List.length_nil, true_and, and_true, true_or, or_true, eq_self, forall_const, true_implies, not_true_eq_false, not_false_eq_true, false_implies, implies_true, false_and, and_false, false_or, or_false, nI1] at hQ ⊢
      exact ih (r + 1) _ (by omega) hQ
theorem t_rowsThere {K : Cx} {d : Nat} {σ : Sg} {m : Mm} {l : Ml} {Q : Rt} (hw : wfN σ) (hr : wfR σ) (hQ : Q (rcL (fun r => decide (m (2 + 2 * r) 1 ≠ 0)) 8 0 0) σ m l) : CT K (d + 1) YX5_rowsThere [.ref 0] σ m l Q := by
  refine kX5_rowsThere ?_
  simp only [xX5_rowsThere_0, xX5_rowsThere_1, xX5_rowsThere_2, xX5_rowsThere_3, Bool.false_eq_true, if_true, if_false, kl_i, kl_a, kl_s, kl_u, kl_l, okS_nil, okS_cons, cat_i, cat_a, cat_s, cat_l, Nat.reduceAdd, Nat.reduceLeDiff, Nat.reduceSub, Nat.sub_zero, Nat.sub_self, Nat.zero_add, Nat.le_refl, Nat.zero_le, List.length_cons, List.length_nil, true_and, and_true, true_or, or_true, eq_self, forall_const, true_implies, not_true_eq_false, not_false_eq_true, false_implies, implies_true, false_and, and_false, false_or, or_false]
  exact l_rt hw hr 8 0 0 (by omega) hQ
