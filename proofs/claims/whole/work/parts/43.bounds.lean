/-! a day keeps the numbers within bounds -/
theorem mnN {x y : Nat} (hx : x < 2147483648) (hy : y < 2147483648) : mnL (nI x) (nI y) = nI (min x y) := by
  unfold mnL
  have e := ltN hx hy
  by_cases h : x < y
  · rw [if_pos (e.mpr h), Nat.min_eq_left (by omega)]
  · rw [if_neg (fun g => h (e.mp g)), Nat.min_eq_right (by omega)]
theorem sbN {x y : Nat} (h : y ≤ x) : nI x - nI y = nI (x - y) := by
  have := nIs y (x - y)
  rw [show y + (x - y) = x by omega] at this
  exact this
theorem hfN : ∀ n : Nat, n < 100 → nI n / 2 = nI (n / 2) := by decide +kernel
theorem dbN : ∀ n : Nat, n < 100 → 2 * nI n = nI (2 * n) := by decide +kernel
/-- fills within the room -/
def FB (N rm : Nat) (a : Nat → Int32) : Prop := ∀ w, w < N → ∃ x : Nat, a (26 + w) = nI x ∧ x ≤ rm
theorem wn_b {a : Nat → Int32} {v nt : Nat} (h0 : a 0 = nI nt) (hn : nt ≤ 99) : ∃ t : Nat, wnM a v = nI t ∧ t ≤ 198 := by
  unfold wnM
  rw [h0]
  by_cases h2 : a (5 + v) = 2
  · rw [if_pos h2]; exact ⟨nt / 2, hfN nt (by omega), by omega⟩
  · rw [if_neg h2]
    by_cases h4 : a (5 + v) = 4
    · rw [if_pos h4]; exact ⟨2 * nt, dbN nt (by omega), by omega⟩
    · rw [if_neg h4]
      by_cases h3 : a (5 + v) = 3
      · rw [if_pos h3]; exact ⟨0, rfl, by omega⟩
      · rw [if_neg h3]; exact ⟨nt, rfl, by omega⟩
theorem FB_dw {N rm nt v nx : Nat} {a : Nat → Int32} (hrm : rm ≤ 999) (h0 : a 0 = nI nt) (hn : nt ≤ 99) (h1 : a 1 = nI rm) (hv : v < N) (hx : nx < N) (h : FB N rm a) : FB N rm (dwM a v nx) := by
  unfold dwM
  split
  · exact h
  · obtain ⟨t, ht, ht2⟩ := wn_b (v := v) h0 hn
    obtain ⟨x, ex, bx⟩ := h nx hx
    obtain ⟨y, ey, bY⟩ := h v hv
    have ed : mnL (wnM a v) (a (26 + nx)) = nI (min t x) := by rw [ht, ex, mnN (by omega) (by omega)]
    have hm : min t x ≤ x := Nat.min_le_right _ _
    rw [ed]
    have e1 : a (26 + nx) - nI (min t x) = nI (x - min t x) := by rw [ex, sbN hm]
    rw [e1]
    intro w hw
    by_cases g : w = v
    · subst g
      rw [upd_s]
      by_cases g2 : nx = w
      · subst g2
        rw [upd_s, nIk, h1, mnN (by omega) (by omega)]
        exact ⟨_, rfl, Nat.min_le_right _ _⟩
      · rw [upd_n _ _ (by omega), ey, nIk, h1, mnN (by omega) (by omega)]
        exact ⟨_, rfl, Nat.min_le_right _ _⟩
    · rw [upd_n _ _ (by omega)]
      by_cases g2 : w = nx
      · subst g2
        rw [upd_s]
        exact ⟨_, rfl, by omega⟩
      · rw [upd_n _ _ (by omega)]
        exact h w hw
theorem FB_dwL {N rm nt : Nat} (h7 : N ≤ 7) (hrm : rm ≤ 999) (hn : nt ≤ 99) : ∀ (k v : Nat) (a : Nat → Int32), v + k = N → a 0 = nI nt → a 1 = nI rm → FB N rm a → FB N rm (dwL N v k a) := by
  intro k
  induction k with
  | zero => intro v a _ _ _ h; exact h
  | succ k ih =>
    intro v a hv h0 h1 h
    have hx : nxM N v < N := by unfold nxM; split <;> omega
    rw [dwL]
    exact ih (v + 1) _ (by omega) (by rw [dwM_o (by omega) (by omega) (by omega)]; exact h0) (by rw [dwM_o (by omega) (by omega) (by omega)]; exact h1) (FB_dw hrm h0 hn h1 (by omega) hx h)
theorem FB_ld {N rm : Nat} (hrm : rm ≤ 999) : ∀ (k v : Nat) (a : Nat → Int32) (s : Int32), v + k = N → (∀ w, w < N → ∃ z : Nat, a (19 + w) = nI z ∧ z ≤ 99) → FB N rm a → N ≤ 7 → FB N rm (ldL v k a s).1 := by
  intro k
  induction k with
  | zero => intro v a s _ _ h _; exact h
  | succ k ih =>
    intro v a s hv hz h h7
    rw [ldL]
    refine ih (v + 1) _ _ (by omega) (fun w hw => ?_) (fun w hw => ?_) h7
    · rw [ldM, upd_n _ _ (by omega), upd_n _ _ (by omega)]; exact hz w hw
    · rw [ldM, upd_n _ _ (by omega)]
      by_cases g : w = v
      · subst g
        obtain ⟨x, ex, bx⟩ := h w hw
        obtain ⟨z, ez, bz⟩ := hz w hw
        rw [upd_s, hdM, ex, ez, mnN (by omega) (by omega), sbN (Nat.min_le_left _ _)]
        exact ⟨_, rfl, by omega⟩
      · rw [upd_n _ _ (by omega)]; exact h w hw
theorem BD_go {N R : Nat} {a : Nat → Int32} (h7 : N ≤ 7) (hR : R ≤ 99) (h : BD N a) (hd : ∀ D, a 3 = nI D → D ≤ 9999 → D < 9999) : BD N (goQ N a (nI R)) := by
  obtain ⟨nt, rm, D, b1, b2, b3, b4, b5, b6, b7⟩ := h
  have hr := fun w (hw : w < N) => rn_at (rain := nI R) N 0 a (by omega) w (by omega)
  have ho := fun j (hj : j < 26 ∨ 33 ≤ j) => rn_o (rain := nI R) hj N 0 a (by omega)
  have lo := fun j (hj : j < 26) => ld_o hj N 0 (rnL (nI R) 0 N a) 0
  have go : ∀ j, j < 26 → j ≠ 3 → goQ N a (nI R) j = a j := fun j hj hj3 => by
    unfold goQ
    rw [upd_n _ _ hj3, dw_o (by omega) h7, lo j hj, ho j (by omega)]
  have f1 : FB N rm (rnL (nI R) 0 N a) := fun w hw => by
    obtain ⟨k, x, y, z, e1, e2, e3, e4, e5, e6, e7, e8, e9⟩ := b7 w hw
    rw [hr w hw, if_pos (by omega), e4, e6, b3, nIk, nIk, mnN (by omega) (by omega)]
    exact ⟨_, rfl, Nat.min_le_right _ _⟩
  have f2 : FB N rm (ldL 0 N (rnL (nI R) 0 N a) 0).1 := FB_ld b4 N 0 _ 0 (by omega) (fun w hw => by
    obtain ⟨k, x, y, z, e1, e2, e3, e4, e5, e6, e7, e8, e9⟩ := b7 w hw
    rw [ho _ (by omega)]
    exact ⟨z, e8, e9⟩) f1 h7
  have f3 := FB_dwL h7 b4 b2 N 0 _ (by omega) (by rw [lo 0 (by omega), ho 0 (by omega)]; exact b1) (by rw [lo 1 (by omega), ho 1 (by omega)]; exact b3) f2
  have e3 : goQ N a (nI R) 3 = a 3 + 1 := by
    unfold goQ
    rw [upd_s, dw_o (by omega) h7, lo 3 (by omega), ho 3 (by omega)]
  refine ⟨nt, rm, D + 1, ?_, b2, ?_, b4, ?_, ?_, fun w hw => ?_⟩
  · rw [go 0 (by omega) (by omega)]; exact b1
  · rw [go 1 (by omega) (by omega)]; exact b3
  · rw [e3, b5, nI1]
  · have := hd D b5 b6; omega
  · obtain ⟨k, x, y, z, e1, e2, e3, e4, e5, e6, e7, e8, e9⟩ := b7 w hw
    obtain ⟨x', ex, bx⟩ := f3 w hw
    refine ⟨k, x', y, z, ?_, e2, e3, ?_, bx, ?_, e7, ?_, e9⟩
    · rw [go _ (by omega) (by omega)]; exact e1
    · unfold goQ
      rw [upd_n _ _ (by omega)]; exact ex
    · rw [go _ (by omega) (by omega)]; exact e6
    · rw [go _ (by omega) (by omega)]; exact e8
