/-! THE RELATION: the class's object at 0, the model's at 199 -/
def wfI (σ : Sg) : Prop := isO σ 18 111 ∧ ln σ 18 = 2 ∧ ∀ k, k < 2 → rf σ 18 k = .ref (19 + 6 * k) ∧ isP σ (19 + 6 * k)
def WF (σ : Sg) : Prop := wfN σ ∧ wfR σ ∧ wfT σ ∧ wfA σ ∧ wfL σ ∧ wfM σ ∧ wfI σ
def rwR (m : Mm) (r : Nat) : Prop := (m (2 + 2 * r) 1 = 0 ∧ m 201 r = -1) ∨ (m (2 + 2 * r) 1 = 1 ∧ ∃ n : Nat, n ≤ 40 ∧ m (2 + 2 * r) 3 = nI n ∧ m 201 r = nI n ∧ m (2 + 2 * r) 2 = m 200 r ∧ ∀ k, k < 40 → m (3 + 2 * r) k = m 202 (40 * r + k))
def cRow (m : Mm) : Prop := ∀ r, r < 8 → rwR m r
def cSt (m : Mm) : Prop := m 0 9 = m 199 3
def cFl (m : Mm) : Prop := m 0 8 = m 199 6
def cTp (m : Mm) : Prop := ∃ (T : Nat) (B : Nat → Nat) (P : Nat), tpH m B T ∧ tpM m B T ∧ m 31 1 = nI T ∧ m 199 5 = nI T ∧ m 31 3 = nI P
def snap (N : Nat) (q : Mm) (a : Nat → Int32) : Prop := triQ N q a (fun _ => True) ∧ BD N a ∧ q 0 5 = 1
def sgA (f : Nat → Int32) (i : Nat) : Nat → Int32 := fun k => f (40 * i + k)
def slot (X A i : Nat) : Nat := (X + 24 - A + i) % 24
def cAc (N X A : Nat) (m : Mm) : Prop := ∀ i, i < A → snap N (getP m (53 + 6 * slot X A i)) (sgA (m 205) i)
def cPl (m : Mm) : Prop := ∃ N X A : Nat, N ≤ 7 ∧ nowH N m (m 204) ∧ BD N (m 204) ∧ m 33 5 = m 199 7 ∧ (m 33 5 = 0 → N = 0 ∧ A = 0) ∧ X < 24 ∧ A ≤ 24 ∧ m 51 1 = nI X ∧ m 51 2 = nI A ∧ m 199 9 = nI A ∧ cAc N X A m
def cIm (m : Mm) : Prop := ∀ k, k < 2 → m (19 + 6 * k) 5 = m 207 k ∧ (m 207 k = 0 ∨ m 207 k = 1) ∧ (m 207 k = 1 → m 33 5 = 1 ∧ ∃ N : Nat, N ≤ 7 ∧ snap N (getP m (19 + 6 * k)) (sgA (m 206) k))
def cTr (m : Mm) : Prop := ∃ t : Nat, t ≤ 16 ∧ m 197 1 = nI t ∧ m 199 13 = nI t ∧ ∀ i, i < t → m 198 i = m 208 i
def RR (m : Mm) : Prop := cRow m ∧ cSt m ∧ cFl m ∧ cTp m ∧ cPl m ∧ cIm m ∧ cTr m
theorem cRow_x {m m' : Mm} (e : ∀ o, (2 ≤ o ∧ o < 18) ∨ (200 ≤ o ∧ o < 203) → m' o = m o) (h : cRow m) : cRow m' := by
  intro r hr
  have := h r hr
  unfold rwR at this ⊢
  rw [e (2 + 2 * r) (by omega), e (3 + 2 * r) (by omega), e 200 (by omega), e 201 (by omega), e 202 (by omega)]
  exact this
theorem cTp_x {m m' : Mm} (e1 : m' 31 1 = m 31 1) (e3 : m' 31 3 = m 31 3) (e5 : m' 199 5 = m 199 5) (e32 : m' 32 = m 32) (e203 : m' 203 = m 203) (h : cTp m) : cTp m' := by
  unfold cTp tpH tpM at h ⊢
  rw [e1, e3, e5, e32, e203]
  exact h
theorem getP_x {m m' : Mm} {p : Nat} (h : ∀ o, p ≤ o → o < p + 6 → m' o = m o) {j : Nat} (hj : j < 6) : getP m' p j = getP m p j := h (p + j) (by omega) (by omega)
theorem triQ_x {N : Nat} {q q' : Mm} {a a' : Nat → Int32} {L : Nat → Prop} (h7 : N ≤ 7) (hq : ∀ j, j < 6 → q' j = q j) (ha : ∀ j, j < 40 → a' j = a j) (h : triQ N q a L) : triQ N q' a' L := by
  obtain ⟨⟨e0, e1, e2, e3, e4, e5, e6⟩, e7, e8⟩ := h
  unfold triQ relQ
  rw [hq 0 (by omega), hq 1 (by omega), hq 2 (by omega), hq 3 (by omega), hq 4 (by omega), hq 5 (by omega), ha 0 (by omega), ha 1 (by omega), ha 2 (by omega), ha 3 (by omega), ha 4 (by omega)]
  refine ⟨⟨e0, e1, e2, e3, e4, fun v hv => ?_, fun v hv hl => ?_⟩, e7, e8⟩
  · rw [ha _ (by omega), ha _ (by omega), ha _ (by omega), ha _ (by omega)]; exact e5 v hv
  · rw [ha _ (by omega)]; exact e6 v hv hl
theorem BD_x {N : Nat} {a a' : Nat → Int32} (h7 : N ≤ 7) (ha : ∀ j, j < 40 → a' j = a j) (h : BD N a) : BD N a' := by
  obtain ⟨nt, rm, D, b1, b2, b3, b4, b5, b6, b7⟩ := h
  refine ⟨nt, rm, D, by rw [ha _ (by omega)]; exact b1, b2, by rw [ha _ (by omega)]; exact b3, b4, by rw [ha _ (by omega)]; exact b5, b6, fun w hw => ?_⟩
  rw [ha _ (by omega), ha _ (by omega), ha _ (by omega), ha _ (by omega)]
  exact b7 w hw
theorem snap_x {N : Nat} {q q' : Mm} {a a' : Nat → Int32} (h7 : N ≤ 7) (hq : ∀ j, j < 6 → q' j = q j) (ha : ∀ j, j < 40 → a' j = a j) (h : snap N q a) : snap N q' a' :=
  ⟨triQ_x h7 hq ha h.1, BD_x h7 ha h.2.1, by rw [hq 0 (by omega)]; exact h.2.2⟩
theorem slot_lt (X A i : Nat) : slot X A i < 24 := Nat.mod_lt _ (by omega)
theorem cAc_x {N X A : Nat} {m m' : Mm} (h7 : N ≤ 7) (e : ∀ o, 53 ≤ o → o < 197 → m' o = m o) (e2 : m' 205 = m 205) (h : cAc N X A m) : cAc N X A m' := by
  intro i hi
  have hs := slot_lt X A i
  refine snap_x h7 (fun j hj => getP_x (fun o h1 h2 => e o (by omega) (by omega)) hj) (fun j _ => by rw [e2]) (h i hi)
theorem cPl_x {m m' : Mm} (e : ∀ o, (33 ≤ o ∧ o < 39) ∨ (51 ≤ o ∧ o < 197) ∨ o = 204 ∨ o = 205 → m' o = m o) (e7 : m' 199 7 = m 199 7) (e9 : m' 199 9 = m 199 9) (h : cPl m) : cPl m' := by
  obtain ⟨N, X, A, h7, hn, hb, ht, hz, hX, hA, a1, a2, a3, ha⟩ := h
  refine ⟨N, X, A, h7, ?_, ?_, ?_, ?_, hX, hA, ?_, ?_, ?_, ?_⟩
  · exact triQ_x h7 (fun j hj => getP_x (fun o h1 h2 => e o (by omega)) hj) (fun j _ => by rw [e 204 (by omega)]) hn
  · rw [e 204 (by omega)]; exact hb
  · rw [e 33 (by omega), e7]; exact ht
  · rw [e 33 (by omega)]; exact hz
  · rw [e 51 (by omega)]; exact a1
  · rw [e 51 (by omega)]; exact a2
  · rw [e9]; exact a3
  · exact cAc_x h7 (fun o h1 h2 => e o (by omega)) (e 205 (by omega)) ha
theorem cIm_x {m m' : Mm} (e : ∀ o, (19 ≤ o ∧ o < 31) ∨ o = 33 ∨ o = 206 ∨ o = 207 → m' o = m o) (h : cIm m) : cIm m' := by
  intro k hk
  obtain ⟨h1, h2, h3⟩ := h k hk
  rw [e (19 + 6 * k) (by omega), e 207 (by omega), e 33 (by omega)]
  refine ⟨h1, h2, fun g => ?_⟩
  obtain ⟨g1, N, h7, hs⟩ := h3 g
  exact ⟨g1, N, h7, snap_x h7 (fun j hj => getP_x (fun o h1 h2 => e o (by omega)) hj) (fun j _ => by rw [e 206 (by omega)]) hs⟩
theorem cTr_x {m m' : Mm} (e : ∀ o, o = 197 ∨ o = 198 ∨ o = 208 → m' o = m o) (e13 : m' 199 13 = m 199 13) (h : cTr m) : cTr m' := by
  obtain ⟨t, h1, h2, h3, h4⟩ := h
  refine ⟨t, h1, ?_, ?_, fun i hi => ?_⟩
  · rw [e 197 (by omega)]; exact h2
  · rw [e13]; exact h3
  · rw [e 198 (by omega), e 208 (by omega)]; exact h4 i hi
/-- only scratch differs: draft, tried of the class; read, tried, fills of the model -/
theorem RR_scr {m m' : Mm} (e : ∀ o, o < 39 ∨ (51 ≤ o ∧ o < 209) → m' o = m o) (h : RR m) : RR m' := by
  obtain ⟨h1, h2, h3, h4, h5, h6, h7⟩ := h
  have e0 := e 0 (by omega)
  have e199 := e 199 (by omega)
  refine ⟨cRow_x (fun o ho => e o (by omega)) h1, ?_, ?_, cTp_x ?_ ?_ ?_ (e 32 (by omega)) (e 203 (by omega)) h4, cPl_x (fun o ho => e o (by omega)) ?_ ?_ h5, cIm_x (fun o ho => e o (by omega)) h6, cTr_x (fun o ho => e o (by omega)) ?_ h7⟩
  · unfold cSt; rw [e0, e199]; exact h2
  · unfold cFl; rw [e0, e199]; exact h3
  · rw [e 31 (by omega)]
  · rw [e 31 (by omega)]
  · rw [e199]
  · rw [e199]
  · rw [e199]
  · rw [e199]
/-- both findings set -/
theorem RR_st {m : Mm} (x : Int32) (h : RR m) : RR (upM (upM m 0 9 x) 199 3 x) := by
  obtain ⟨h1, h2, h3, h4, h5, h6, h7⟩ := h
  have e : ∀ o, o ≠ 0 → o ≠ 199 → upM (upM m 0 9 x) 199 3 x o = m o := fun o n1 n2 => by rw [upM_n _ _ _ n2, upM_n _ _ _ n1]
  have e9 : ∀ k, k ≠ 3 → upM (upM m 0 9 x) 199 3 x 199 k = m 199 k := fun k hk => by rw [upM_s, upd_n _ _ hk, upM_n _ _ _ (by decide)]
  refine ⟨cRow_x (fun o ho => e o (by omega) (by omega)) h1, rfl, ?_, cTp_x ?_ ?_ (e9 5 (by decide)) (e 32 (by decide) (by decide)) (e 203 (by decide) (by decide)) h4, cPl_x (fun o ho => e o (by omega) (by omega)) (e9 7 (by decide)) (e9 9 (by decide)) h5, cIm_x (fun o ho => e o (by omega) (by omega)) h6, cTr_x (fun o ho => e o (by omega) (by omega)) (e9 13 (by decide)) h7⟩
  · unfold cFl
    rw [e9 6 (by decide), upM_n _ _ _ (by decide), upM_s, upd_n _ _ (by decide)]
    exact h3
  · rw [e 31 (by decide) (by decide)]
  · rw [e 31 (by decide) (by decide)]
def PAIR (K : Cx) (σ : Sg) (Yc Ym : Yt) (as : List Value) : Prop := ∀ (m : Mm) (l : Ml), RR m → CT K 12 Yc (.ref 0 :: as) σ m l (fun r σ1 m1 l1 => σ1 = σ ∧ CT K 12 Ym (.ref 199 :: as) σ m1 l1 (fun r' σ2 m2 l2 => σ2 = σ ∧ r' = r ∧ RR m2))
theorem p_status {K : Cx} {σ : Sg} (hw : WF σ) : PAIR K σ YX5_status YX6_status [] := by
  intro m l h
  refine kX5_status ?_
  simp only [xX5_status_0, xX5_status_1, xX5_status_4, Bool.false_eq_true, if_true, if_false, kl_i, kl_a, kl_s, kl_u, kl_l, okS_nil, okS_cons, cat_i, cat_a, cat_s, cat_l, Nat.reduceAdd, Nat.reduceLeDiff, Nat.reduceSub, Nat.sub_zero, Nat.sub_self, Nat.zero_add, Nat.le_refl, Nat.zero_le, List.length_cons, List.length_nil, true_and, and_true, true_or, or_true, eq_self, forall_const, true_implies, not_true_eq_false, not_false_eq_true, false_implies, implies_true, false_and, and_false, false_or, or_false, hw.1.1]
  refine kX6_status ?_
  simp only [xX6_status_0, xX6_status_1, xX6_status_4, Bool.false_eq_true, if_true, if_false, kl_i, kl_a, kl_s, kl_u, kl_l, okS_nil, okS_cons, cat_i, cat_a, cat_s, cat_l, Nat.reduceAdd, Nat.reduceLeDiff, Nat.reduceSub, Nat.sub_zero, Nat.sub_self, Nat.zero_add, Nat.le_refl, Nat.zero_le, List.length_cons, List.length_nil, true_and, and_true, true_or, or_true, eq_self, forall_const, true_implies, not_true_eq_false, not_false_eq_true, false_implies, implies_true, false_and, and_false, false_or, or_false, hw.2.2.2.2.2.1.1]
  exact ⟨h.2.1.symm, h⟩
theorem p_fault {K : Cx} {σ : Sg} (hw : WF σ) : PAIR K σ YX5_fault YX6_fault [] := by
  intro m l h
  refine kX5_fault ?_
  simp only [xX5_fault_0, xX5_fault_1, xX5_fault_4, Bool.false_eq_true, if_true, if_false, kl_i, kl_a, kl_s, kl_u, kl_l, okS_nil, okS_cons, cat_i, cat_a, cat_s, cat_l, Nat.reduceAdd, Nat.reduceLeDiff, Nat.reduceSub, Nat.sub_zero, Nat.sub_self, Nat.zero_add, Nat.le_refl, Nat.zero_le, List.length_cons, List.length_nil, true_and, and_true, true_or, or_true, eq_self, forall_const, true_implies, not_true_eq_false, not_false_eq_true, false_implies, implies_true, false_and, and_false, false_or, or_false, hw.1.1]
  refine kX6_fault ?_
  simp only [xX6_fault_0, xX6_fault_1, xX6_fault_4, Bool.false_eq_true, if_true, if_false, kl_i, kl_a, kl_s, kl_u, kl_l, okS_nil, okS_cons, cat_i, cat_a, cat_s, cat_l, Nat.reduceAdd, Nat.reduceLeDiff, Nat.reduceSub, Nat.sub_zero, Nat.sub_self, Nat.zero_add, Nat.le_refl, Nat.zero_le, List.length_cons, List.length_nil, true_and, and_true, true_or, or_true, eq_self, forall_const, true_implies, not_true_eq_false, not_false_eq_true, false_implies, implies_true, false_and, and_false, false_or, or_false, hw.2.2.2.2.2.1.1]
  exact ⟨h.2.2.1.symm, h⟩
