/-! calls: ask; the traces -/
theorem addQ_198 (m : Mm) {t : Nat} (x : Int32) (h : t < 16) : addQ m t x 198 = upd (m 198) t x := by
  unfold addQ
  rw [if_pos h, upM_n _ _ _ (by decide), upM_s]
theorem psh_v : ∀ (L : List Int32) (m : Mm) (t : Nat), t + L.length ≤ 16 → (∀ j, j < t → psh m t L 198 j = m 198 j) ∧ ∀ i, i < L.length → psh m t L 198 (t + i) = L.getD i 0 := by
  intro L
  induction L with
  | nil => intro m t _; exact ⟨fun _ _ => rfl, fun i hi => absurd hi (Nat.not_lt_zero _)⟩
  | cons b L ih =>
    intro m t h
    rw [List.length_cons] at h
    obtain ⟨i1, i2⟩ := ih (addQ m t b) (t + 1) (by omega)
    refine ⟨fun j hj => ?_, fun i hi => ?_⟩
    · rw [psh, i1 j (by omega), addQ_198 _ _ (by omega), upd_n _ _ (by omega)]
    · rw [List.length_cons] at hi
      cases i with
      | zero => exact (i1 t (by omega)).trans (by rw [addQ_198 _ _ (by omega), upd_s]; rfl)
      | succ i => rw [psh, show t + (i + 1) = t + 1 + i by omega, i2 i (by omega)]; rfl
theorem mpsh_v : ∀ (L : List Int32) (m : Mm) (t : Nat), (∀ j, j < t → mpsh m t L 208 j = m 208 j) ∧ ∀ i, i < L.length → mpsh m t L 208 (t + i) = L.getD i 0 := by
  intro L
  induction L with
  | nil => intro m t; exact ⟨fun _ _ => rfl, fun i hi => absurd hi (Nat.not_lt_zero _)⟩
  | cons b L ih =>
    intro m t
    have e : upM (upM m 208 t b) 199 13 (nI (t + 1)) 208 = upd (m 208) t b := by rw [upM_n _ _ _ (by decide), upM_s]
    obtain ⟨i1, i2⟩ := ih (upM (upM m 208 t b) 199 13 (nI (t + 1))) (t + 1)
    refine ⟨fun j hj => ?_, fun i hi => ?_⟩
    · rw [mpsh, i1 j (by omega), e, upd_n _ _ (by omega)]
    · rw [List.length_cons] at hi
      cases i with
      | zero => exact (i1 t (by omega)).trans (by rw [e, upd_s]; rfl)
      | succ i => rw [mpsh, show t + (i + 1) = t + 1 + i by omega, i2 i (by omega)]; rfl
theorem mpsh_k : ∀ (L : List Int32) (m : Mm) (t k : Nat), k ≠ 13 → mpsh m t L 199 k = m 199 k := by
  intro L
  induction L with
  | nil => intro m t k _; rfl
  | cons b L ih => intro m t k hk; rw [mpsh, ih _ _ _ hk, upM_s, upd_n _ _ hk, upM_n _ _ _ (by decide)]
theorem mpsh_13 : ∀ (L : List Int32) (m : Mm) (t : Nat), m 199 13 = nI t → mpsh m t L 199 13 = nI (t + L.length) := by
  intro L
  induction L with
  | nil => intro m t h; exact h
  | cons b L ih => intro m t h; rw [mpsh, ih _ _ (mp13 _ _ _), List.length_cons]; congr 1; omega
theorem mpsh_app : ∀ (L1 L2 : List Int32) (m : Mm) (t : Nat), mpsh m t (L1 ++ L2) = mpsh (mpsh m t L1) (t + L1.length) L2 := by
  intro L1
  induction L1 with
  | nil => intro L2 m t; rfl
  | cons b L1 ih =>
    intro L2 m t
    rw [List.cons_append, mpsh, mpsh, ih, List.length_cons]
    congr 1
    omega
/-- both traces are the same list -/
theorem RR_tr {m : Mm} {L : List Int32} (h : RR m) (hL : L.length ≤ 16) : RR (mpsh (upM (psh (upM m 197 1 0) 0 L) 199 13 0) 0 L) := by
  obtain ⟨c1, c2, c3, c4, c5, c6, c7⟩ := h
  have eo : ∀ o, o ≠ 197 → o ≠ 198 → o ≠ 199 → o ≠ 208 → mpsh (upM (psh (upM m 197 1 0) 0 L) 199 13 0) 0 L o = m o := fun o o1 o2 o3 o4 => by
    rw [mpsh_o o3 o4, upM_n _ _ _ o3, psh_o (by omega), upM_n _ _ _ o1]
  have e9 : ∀ k, k ≠ 13 → mpsh (upM (psh (upM m 197 1 0) 0 L) 199 13 0) 0 L 199 k = m 199 k := fun k hk => by
    rw [mpsh_k _ _ _ _ hk, upM_s, upd_n _ _ hk, psh_o (by omega), upM_n _ _ _ (by decide)]
  have e13 : mpsh (upM (psh (upM m 197 1 0) 0 L) 199 13 0) 0 L 199 13 = nI L.length := by
    rw [mpsh_13 _ _ 0 (by rw [upM_s, upd_s]; rfl), Nat.zero_add]
  have e197 : mpsh (upM (psh (upM m 197 1 0) 0 L) 199 13 0) 0 L 197 1 = nI L.length := by
    rw [mpsh_o (by decide) (by decide), upM_n _ _ _ (by decide), psh_1 _ _ 0 (by omega) (by rw [upM_s, upd_s]; rfl), Nat.zero_add]
  have e198 : ∀ i, i < L.length → mpsh (upM (psh (upM m 197 1 0) 0 L) 199 13 0) 0 L 198 i = L.getD i 0 := fun i hi => by
    rw [mpsh_o (by decide) (by decide), upM_n _ _ _ (by decide)]
    have := (psh_v L (upM m 197 1 0) 0 (by omega)).2 i hi
    rw [Nat.zero_add] at this
    exact this
  have e208 : ∀ i, i < L.length → mpsh (upM (psh (upM m 197 1 0) 0 L) 199 13 0) 0 L 208 i = L.getD i 0 := fun i hi => by
    have := (mpsh_v L (upM (psh (upM m 197 1 0) 0 L) 199 13 0) 0).2 i hi
    rw [Nat.zero_add] at this
    exact this
  refine ⟨cRow_x (fun o ho => eo o (by omega) (by omega) (by omega) (by omega)) c1, ?_, ?_, cTp_x ?_ ?_ (e9 5 (by decide)) (eo 32 (by decide) (by decide) (by decide) (by decide)) (eo 203 (by decide) (by decide) (by decide) (by decide)) c4, cPl_x (fun o ho => eo o (by omega) (by omega) (by omega) (by omega)) (e9 7 (by decide)) (e9 9 (by decide)) c5, cIm_x (fun o ho => eo o (by omega) (by omega) (by omega) (by omega)) c6, ⟨L.length, hL, e197, e13, fun i hi => by rw [e198 i hi, e208 i hi]⟩⟩
  · unfold cSt; rw [eo 0 (by decide) (by decide) (by decide) (by decide), e9 3 (by decide)]; exact c2
  · unfold cFl; rw [eo 0 (by decide) (by decide) (by decide) (by decide), e9 6 (by decide)]; exact c3
  · rw [eo 31 (by decide) (by decide) (by decide) (by decide)]
  · rw [eo 31 (by decide) (by decide) (by decide) (by decide)]
