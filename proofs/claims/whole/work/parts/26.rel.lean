/-! the class's plain against the model's row of 40: the same day -/
/-- a plain of the class and one of the model hold the same (lacks: of those of L) -/
def relQ (N : Nat) (q : Mm) (a : Nat → Int32) (L : Nat → Prop) : Prop :=
  q 0 6 = a 0 ∧ q 0 7 = a 1 ∧ q 0 8 = a 2 ∧ q 0 9 = a 3 ∧ q 0 10 = a 4 ∧ (∀ v, v < N → q 1 v = a (5 + v) ∧ q 3 v = a (12 + v) ∧ q 4 v = a (19 + v) ∧ q 2 v = a (26 + v)) ∧ ∀ v, v < N → L v → q 5 v = a (33 + v)
theorem mnL_comm (x y : Int32) : mnL x y = mnL y x := by
  unfold mnL
  by_cases h1 : x < y
  · have h2 : ¬ y < x := fun h => Int32.lt_irrefl (Int32.lt_trans h1 h)
    rw [if_pos h1, if_neg h2]
  · by_cases h2 : y < x
    · rw [if_neg h1, if_pos h2]
    · rw [if_neg h1, if_neg h2]
      exact Int32.le_antisymm (Int32.not_lt.mp h1) (Int32.not_lt.mp h2)
theorem mnI_L (x y : Int32) : mnI x y = mnL y x := rfl
theorem want_eq {q : Mm} {a : Nat → Int32} {v : Nat} (h0 : q 0 6 = a 0) (h1 : q 1 v = a (5 + v)) : wantK (q 1 v) (q 0 6) = wnM a v := by
  unfold wantK wnM
  rw [h0, h1]
  by_cases g2 : a (5 + v) = 2
  · rw [if_pos g2, if_pos g2]
  · rw [if_neg g2, if_neg g2]
    by_cases g4 : a (5 + v) = 4
    · have g3 : ¬ a (5 + v) = 3 := by rw [g4]; decide
      rw [if_neg g3, if_pos g4, if_pos g4, Int32.mul_comm]
    · rw [if_neg g4]
      by_cases g3 : a (5 + v) = 3
      · simp only [if_pos g3, if_neg g4]
      · simp only [if_neg g3, if_neg g4]
theorem nxt_eq {N v : Nat} (h : v < N) : nxt N v = nxM N v := by
  unfold nxt nxM
  by_cases h1 : v + 1 = N
  · rw [if_neg (by omega), if_pos h1]
  · rw [if_pos (by omega), if_neg h1]
theorem allB : ∀ N : Nat, N < 8 → ∀ v : Nat, v < 8 → v < N → gd ((1 : Int32) <<< (nI N &&& 31) - 1) (nI v) = true := by decide +kernel
/-- one draws, on both sides; a set of those who may -/
theorem dw_rel {N v : Nat} {q : Mm} {a : Nat → Int32} {f : Nat → Int32} {dr : Int32} (h7 : N ≤ 7) (hv : v < N) (h0 : q 0 6 = a 0) (h1 : q 0 7 = a 1) (h4 : q 0 10 = a 4) (hk : ∀ w, w < N → q 1 w = a (5 + w)) (hf : ∀ w, w < N → f w = a (26 + w)) :
    ∀ w, w < N → ngG q dr v (nxt N v) f w = (if gd dr (nI v) then dwM a v (nxM N v) else a) (26 + w) := by
  have hnx : nxM N v < N := by unfold nxM; split <;> omega
  rw [nxt_eq hv]
  intro w hw
  unfold ngG dwM
  rw [want_eq h0 (hk v hv), h4, hk _ hnx, h1, hf _ hnx]
  cases g1 : gd dr (nI v)
  · simp only [Bool.false_eq_true, false_and, if_false]
    exact hf w hw
  · cases g2 : gd (a 4) (nI v)
    · cases g3 : gd (a 4) (nI (nxM N v))
      · by_cases g5 : a (5 + nxM N v) = 5
        · simp only [g5, not_true_eq_false, and_false, if_false, or_true, if_true]
          exact hf w hw
        · simp only [g5, not_false_eq_true, and_self, if_true, Bool.false_eq_true, or_self, if_false]
          have em : mnI (wnM a v) (a (26 + nxM N v)) = mnL (wnM a v) (a (26 + nxM N v)) := by rw [mnI_L, mnL_comm]
          rw [em, mnI_L]
          have e1 : ∀ x u, u < N → upd f (nxM N v) x u = upd a (26 + nxM N v) x (26 + u) := by
            intro x u hu
            simp only [upd]
            by_cases h : u = nxM N v
            · rw [if_pos h, if_pos (by omega)]
            · rw [if_neg h, if_neg (by omega)]; exact hf u hu
          rw [e1 _ v hv]
          by_cases h : w = v
          · subst h
            rw [upd_s, upd_s]
          · refine (upd_n _ _ h).trans ((e1 _ w hw).trans (upd_n _ _ (by omega)).symm)
      · simp only [Bool.true_eq_false, false_and, and_false, if_false, true_or, or_true, if_true]
        exact hf w hw
    · simp only [Bool.true_eq_false, false_and, and_false, if_false, true_or, if_true]
      exact hf w hw
theorem dwM_o {a : Nat → Int32} {v nx j : Nat} (hv : v < 7) (hx : nx < 7) (hj : j < 26 ∨ 33 ≤ j) : dwM a v nx j = a j := dwM_2 hj hv hx a
theorem ng_rel {N : Nat} {q : Mm} (h7 : N ≤ 7) : ∀ (k v : Nat) (a : Nat → Int32) (f : Nat → Int32), v + k = N → q 0 6 = a 0 → q 0 7 = a 1 → q 0 10 = a 4 → (∀ w, w < N → q 1 w = a (5 + w)) → (∀ w, w < N → f w = a (26 + w)) →
    ∀ w, w < N → ngL N q ((1 : Int32) <<< (nI N &&& 31) - 1) v k f w = dwL N v k a (26 + w) := by
  intro k
  induction k with
  | zero => intro v a f _ _ _ _ _ hf; exact hf
  | succ k ih =>
    intro v a f hv h0 h1 h4 hk hf
    have hn : nxM N v < 7 := by unfold nxM; split <;> omega
    have hb := allB N (by omega) v (by omega) (by omega)
    have hd := dw_rel (dr := (1 : Int32) <<< (nI N &&& 31) - 1) h7 (by omega : v < N) h0 h1 h4 hk hf
    rw [hb] at hd
    simp only [ngL, dwL]
    have o : ∀ j, j < 26 → dwM a v (nxM N v) j = a j := fun j hj => dwM_o (by omega) hn (by omega)
    exact ih (v + 1) _ _ (by omega) (by rw [o 0 (by omega)]; exact h0) (by rw [o 1 (by omega)]; exact h1) (by rw [o 4 (by omega)]; exact h4) (fun w hw => by rw [o (5 + w) (by omega)]; exact hk w hw) hd
theorem dy_rel {N : Nat} {q : Mm} {rain : Int32} {L : Nat → Prop} : ∀ (k v : Nat) (a : Nat → Int32) (f g : Nat → Int32) (s : Int32), v + k = N → N ≤ 7 → (∀ w, w < N → q 4 w = a (19 + w)) → (∀ w, w < v → f w = a (26 + w)) → (∀ w, v ≤ w → w < N → a (26 + w) = mnL (f w + q 3 w + rain) (q 0 7)) → (∀ w, w < N → L w → g w = a (33 + w)) →
    (∀ w, w < N → (dyL q rain v k f g s).1 w = (ldL v k a s).1 (26 + w)) ∧ (∀ w, w < N → L w → (dyL q rain v k f g s).2.1 w = (ldL v k a s).1 (33 + w)) ∧ (dyL q rain v k f g s).2.2 = (ldL v k a s).2 := by
  intro k
  induction k with
  | zero =>
    intro v a f g s hv h7 hn hf ha hg
    exact ⟨fun w hw => hf w (by omega), hg, rfl⟩
  | succ k ih =>
    intro v a f g s hv h7 hn hf ha hg
    have eA : dyA q rain v f = a (26 + v) := by rw [ha v (by omega) (by omega)]; rfl
    have eD : dyD q rain v f = hdM a v := by
      unfold dyD hdM
      rw [eA, hn v (by omega), mnI_L]
    simp only [dyL, ldL, eA, eD, hn v (by omega)]
    have es : (if hdM a v < a (19 + v) then s ||| (1 : Int32) <<< (nI v &&& 31) else s) = lsM a v s := by
      unfold lsM
      by_cases h : hdM a v < a (19 + v)
      · rw [if_pos h, if_pos h]
      · rw [if_neg h, if_neg h]
        exact (Int32.or_zero).symm
    rw [es]
    refine ih (v + 1) (ldM a v) _ _ _ (by omega) h7 (fun w hw => ?_) (fun w hw => ?_) (fun w hw1 hw2 => ?_) (fun w hw hl => ?_)
    · rw [ldM, upd_n _ _ (by omega), upd_n _ _ (by omega)]
      exact hn w hw
    · refine Eq.trans ?_ (show ldM a v (26 + w) = upd a (26 + v) (a (26 + v) - hdM a v) (26 + w) from ?_).symm
      · by_cases h : w = v
        · subst h; rw [upd_s, upd_s]
        · refine (upd_n _ _ h).trans ((hf w (by omega)).trans (upd_n _ _ (by omega)).symm)
      · have z : 26 + w ≠ 33 + v := by omega
        rw [ldM]; exact upd_n _ _ z
    · have e : ldM a v (26 + w) = a (26 + w) := by rw [ldM]; exact (upd_n _ _ (by omega)).trans (upd_n _ _ (by omega))
      rw [e, upd_n _ _ (by omega)]
      exact ha w (by omega) hw2
    · rw [ldM]
      by_cases h : w = v
      · subst h
        rw [upd_s]
        by_cases hl2 : hdM a w < a (19 + w)
        · rw [if_pos hl2, upd_s, hg w hw hl]
        · rw [if_neg hl2, hg w hw hl]
          have e : a (19 + w) = hdM a w := by
            unfold hdM mnL at hl2 ⊢
            by_cases h3 : a (26 + w) < a (19 + w)
            · rw [if_pos h3] at hl2
              exact absurd h3 hl2
            · rw [if_neg h3]
          rw [← e]
          simp
      · rw [upd_n _ _ (by omega), upd_n _ _ (by omega)]
        have e : (if hdM a v < a (19 + v) then upd g v (g v + (a (19 + v) - hdM a v)) else g) w = g w := by
          split
          · exact upd_n _ _ h
          · rfl
        rw [e]
        exact hg w hw hl
theorem rn_at {rain : Int32} : ∀ (k v : Nat) (a : Nat → Int32), v + k ≤ 7 → ∀ w, w < 7 → rnL rain v k a (26 + w) = if v ≤ w ∧ w < v + k then mnL (a (26 + w) + a (12 + w) + rain) (a 1) else a (26 + w) := by
  intro k
  induction k with
  | zero => intro v a _ w _; rw [if_neg (by omega)]; rfl
  | succ k ih =>
    intro v a hv w hw
    rw [rnL, ih (v + 1) _ (by omega) w hw]
    by_cases h : w = v
    · subst h
      rw [if_neg (by omega), if_pos (by omega), rnM, upd_s]
    · have e1 : rnM a rain v (26 + w) = a (26 + w) := upd_n _ _ (by omega)
      have e2 : rnM a rain v (12 + w) = a (12 + w) := upd_n _ _ (by omega)
      have e3 : rnM a rain v 1 = a 1 := upd_n _ _ (by omega)
      rw [e1, e2, e3]
      by_cases h2 : v + 1 ≤ w ∧ w < v + 1 + k
      · rw [if_pos h2, if_pos (by omega)]
      · rw [if_neg h2, if_neg (by omega)]
theorem rn_o {rain : Int32} {j : Nat} (hj : j < 26 ∨ 33 ≤ j) : ∀ (k v : Nat) (a : Nat → Int32), v + k ≤ 7 → rnL rain v k a j = a j := by
  intro k
  induction k with
  | zero => intro v a _; rfl
  | succ k ih => intro v a hv; rw [rnL, ih _ _ (by omega)]; exact upd_n _ _ (by omega)
theorem ld_o {j : Nat} (hj : j < 26) : ∀ (k v : Nat) (a : Nat → Int32) (s : Int32), (ldL v k a s).1 j = a j := ldL_2 hj
theorem dw_o {N j : Nat} (hj : j < 26 ∨ 33 ≤ j) (h7 : N ≤ 7) (a : Nat → Int32) : dwL N 0 N a j = a j := dwL_2 hj h7 N 0 a (by omega)
/-- THE SAME DAY -/
theorem day_rel {N : Nat} {q : Mm} {a : Nat → Int32} {L : Nat → Prop} (rain : Int32) (h7 : N ≤ 7) (h : relQ N q a L) : dayS N q rain = goS N a rain ∧ relQ N (dayQ N q rain) (goQ N a rain) L := by
  obtain ⟨h0, h1, h2, h3, h4, h5, h6⟩ := h
  have hr := fun w (hw : w < N) => rn_at (rain := rain) N 0 a (by omega) w (by omega)
  have ho := fun j (hj : j < 26 ∨ 33 ≤ j) => rn_o (rain := rain) hj N 0 a (by omega)
  obtain ⟨d1, d2, d3⟩ := dy_rel (q := q) (rain := rain) (L := L) N 0 (rnL rain 0 N a) (q 2) (q 5) 0 (by omega) h7 (fun w hw => by rw [ho _ (by omega)]; exact (h5 w hw).2.2.1) (fun w hw => by omega)
    (fun w _ hw => by rw [hr w hw, if_pos (by omega), ← (h5 w hw).2.2.2, ← (h5 w hw).2.1, h1]) (fun w hw hl => by rw [ho _ (by omega)]; exact h6 w hw hl)
  have lo := fun j (hj : j < 26) => ld_o hj N 0 (rnL rain 0 N a) 0
  have hng := ng_rel (q := q) h7 N 0 (ldL 0 N (rnL rain 0 N a) 0).1 (dyL q rain 0 N (q 2) (q 5) 0).1 (by omega) (by rw [lo _ (by omega), ho _ (by omega)]; exact h0) (by rw [lo _ (by omega), ho _ (by omega)]; exact h1) (by rw [lo _ (by omega), ho _ (by omega)]; exact h4)
    (fun w hw => by rw [lo _ (by omega), ho _ (by omega)]; exact (h5 w hw).1) d1
  have go : ∀ j, j < 26 → j ≠ 3 → goQ N a rain j = a j := fun j hj hj3 => by
    unfold goQ
    rw [upd_n _ _ hj3, dw_o (by omega) h7, lo j hj, ho j (by omega)]
  have eF : ∀ w, dayQ N q rain 2 w = ngL N q ((1 : Int32) <<< (nI N &&& 31) - 1) 0 N (dyL q rain 0 N (q 2) (q 5) 0).1 w := fun w => rfl
  refine ⟨d3, ?_, ?_, ?_, ?_, ?_, fun w hw => ⟨?_, ?_, ?_, ?_⟩, fun w hw hl => ?_⟩
  · rw [go 0 (by omega) (by omega)]; exact h0
  · rw [go 1 (by omega) (by omega)]; exact h1
  · rw [go 2 (by omega) (by omega)]; exact h2
  · have e : goQ N a rain 3 = a 3 + 1 := by
      unfold goQ
      rw [upd_s, dw_o (by omega) h7, lo 3 (by omega), ho 3 (by omega)]
    rw [e, ← h3]
    rfl
  · rw [go 4 (by omega) (by omega)]; exact h4
  · rw [go _ (by omega) (by omega)]; exact (h5 w hw).1
  · rw [go _ (by omega) (by omega)]; exact (h5 w hw).2.1
  · rw [go _ (by omega) (by omega)]; exact (h5 w hw).2.2.1
  · rw [eF, hng w hw]
    unfold goQ
    rw [upd_n _ _ (by omega)]
  · have e : dayQ N q rain 5 w = (dyL q rain 0 N (q 2) (q 5) 0).2.1 w := rfl
    rw [e, d2 w hw hl]
    unfold goQ
    rw [upd_n _ _ (by omega), dw_o (by omega) h7]
