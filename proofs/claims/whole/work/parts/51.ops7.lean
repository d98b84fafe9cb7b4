/-! acts: what is kept; day, weather, guard -/
def remB (m : Mm) (A : Nat) : Nat → Int32 := if A = 24 then va_cpy (m 204) (shA (m 205) 920) 0 920 40 else va_cpy (m 204) (m 205) 0 (40 * A) 40
def nxA (A : Nat) : Nat := if A = 24 then 24 else A + 1
def nxX (X : Nat) : Nat := if X + 1 < 24 then X + 1 else 0
theorem cAc_keep {N X A : Nat} {m m2 q0 : Mm} (h7 : N ≤ 7) (hX : X < 24) (hA : A ≤ 24) (hn : snap N (getP m 33) (m 204)) (ha : cAc N X A m) (eX : ∀ j, j < 6 → getP m2 (53 + 6 * X) j = takeQ q0 (getP m 33) j) (eo : ∀ o, 53 ≤ o → o < 197 → ¬ (53 + 6 * X ≤ o ∧ o < 53 + 6 * X + 6) → m2 o = m o) (e205 : m2 205 = remB m A) : cAc N (nxX X) (nxA A) m2 := by
  intro i hi
  have hnew : ∀ j, j < 40 → sgA (m2 205) (nxA A - 1) j = m 204 j := fun j hj => by
    rw [e205]
    unfold sgA remB nxA
    by_cases h : A = 24
    · rw [if_pos h, if_pos h]
      unfold va_cpy
      rw [if_pos (by omega)]
      exact congrArg _ (by omega)
    · rw [if_neg h, if_neg h]
      unfold va_cpy
      rw [if_pos (by omega)]
      exact congrArg _ (by omega)
  have hold : ∀ i, i < nxA A - 1 → ∀ j, j < 40 → sgA (m2 205) i j = sgA (m 205) (if A = 24 then i + 1 else i) j := fun i hi j hj => by
    rw [e205]
    unfold sgA remB
    unfold nxA at hi
    by_cases h : A = 24
    · rw [if_pos h] at hi ⊢
      rw [if_pos h]
      unfold va_cpy shA
      rw [if_neg (by omega), if_pos (by omega)]
      exact congrArg _ (by omega)
    · rw [if_neg h] at hi ⊢
      rw [if_neg h]
      unfold va_cpy
      rw [if_neg (by omega)]
  have s1 : slot (nxX X) (nxA A) (nxA A - 1) = X := by unfold slot nxX nxA; split <;> split <;> omega
  have s2 : ∀ i, i < nxA A - 1 → slot (nxX X) (nxA A) i = slot X A (if A = 24 then i + 1 else i) ∧ slot X A (if A = 24 then i + 1 else i) ≠ X ∧ (if A = 24 then i + 1 else i) < A := fun i hi => by
    unfold nxA at hi
    unfold slot nxX nxA
    by_cases h : A = 24
    · rw [if_pos h] at hi ⊢
      rw [if_pos h]
      subst h
      refine ⟨?_, ?_, by omega⟩
      · split <;> omega
      · omega
    · rw [if_neg h] at hi ⊢
      rw [if_neg h]
      refine ⟨?_, ?_, by omega⟩
      · split <;> omega
      · omega
  by_cases g : i = nxA A - 1
  · rw [g, s1]
    exact snap_x h7 eX hnew (snap_take h7 hn)
  · obtain ⟨t1, t2, t3⟩ := s2 i (by omega)
    rw [t1]
    have hs := slot_lt X A (if A = 24 then i + 1 else i)
    refine snap_x h7 (fun j hj => getP_x (fun o h1 h2 => eo o (by omega) (by omega) ?_) hj) (hold i (by omega)) (ha _ t3)
    intro q
    apply t2
    omega
theorem remQ_at {m : Mm} {A o : Nat} (h1 : o ≠ 199) (h2 : o ≠ 205) : remQ m A o = m o := by
  unfold remQ
  split
  · rw [upM_n _ _ _ h1, setR_n _ _ h2]
  · rw [upM_n _ _ _ h1, setR_n _ _ h2]
theorem remQ_205 {m : Mm} {A : Nat} : remQ m A 205 = remB m A := by
  unfold remQ remB
  split
  · rw [upM_n _ _ _ (by decide), setR_s]
  · rw [upM_n _ _ _ (by decide), setR_s]
theorem remQ_199 {m : Mm} {A : Nat} : remQ m A 199 = upd (m 199) 9 (nI (nxA A)) := by
  unfold remQ nxA
  split
  · rw [upM_s, setR_n _ _ (by decide)]; rfl
  · rw [upM_s, setR_n _ _ (by decide)]
theorem keepQ_at {m : Mm} {X o : Nat} (h1 : o ≠ 51) (h2 : ¬ (53 + 6 * X ≤ o ∧ o < 53 + 6 * X + 6)) : keepQ m 33 X o = m o := by
  unfold keepQ
  rw [upM_n _ _ _ h1, upM_n _ _ _ h1, putP_o _ _ (by omega)]
theorem mn24 {A : Nat} (h : A ≤ 24) : mnI 24 (nI A + 1) = nI (nxA A) := by
  rw [nI1]
  unfold mnI nxA
  have e : (nI (A + 1) < 24) = (A + 1 < 24) := ltN (a := A + 1) (b := 24) (by omega) (by omega)
  by_cases h1 : A + 1 < 24
  · rw [if_pos (e.mpr h1), if_neg (by omega)]
  · rw [if_neg (fun g => h1 (e.mp g))]
    by_cases h2 : A = 24
    · rw [if_pos h2]; rfl
    · rw [if_neg h2, show A + 1 = 24 by omega]; rfl
/-- after an act: the class kept now, the model remembered it; then now was changed on both sides -/
theorem RR_act {m m' : Mm} {N X A : Nat} (h : RR m) (h7 : N ≤ 7) (hX : X < 24) (hA : A ≤ 24) (hn : nowH N m (m 204)) (hb : BD N (m 204)) (ht : m 33 5 = m 199 7) (a1 : m 51 1 = nI X) (a2 : m 51 2 = nI A) (ha : cAc N X A m) (g1 : m 33 5 = 1)
    (e51 : m' 51 1 = nI (nxX X) ∧ m' 51 2 = nI (nxA A)) (eX : ∀ j, j < 6 → m' (53 + 6 * X + j) = takeQ (getP m (53 + 6 * X)) (getP m 33) j) (eo : ∀ o, o ≠ 199 → o ≠ 204 → o ≠ 205 → o ≠ 51 → ¬ (33 ≤ o ∧ o < 39) → ¬ (53 + 6 * X ≤ o ∧ o < 53 + 6 * X + 6) → m' o = m o)
    (e9 : m' 199 = upd (m 199) 9 (nI (nxA A))) (e205 : m' 205 = remB m A) (e33 : m' 33 5 = 1) (hn' : triQ N (getP m' 33) (m' 204) (fun _ => True)) (hb' : BD N (m' 204)) : RR m' := by
  have e199 : ∀ j, j ≠ 9 → m' 199 j = m 199 j := fun j hj => by rw [e9, upd_n _ _ hj]
  have hX24 : nxX X < 24 := by unfold nxX; split <;> omega
  have hA24 : nxA A ≤ 24 := by unfold nxA; split <;> omega
  refine RR_pl h (fun o ho => eo o (by omega) (by omega) (by omega) (by omega) (by omega) (by omega)) (fun j _ j9 => e199 j j9) ?_ ?_
  · refine ⟨N, nxX X, nxA A, h7, hn', hb', ?_, fun g => ?_, hX24, hA24, e51.1, e51.2, ?_, ?_⟩
    · rw [e33, e199 7 (by decide), ← ht, g1]
    · rw [e33] at g; exact absurd g (by decide)
    · rw [e9, upd_s]
    · exact cAc_keep h7 hX hA ⟨hn, hb, g1⟩ ha eX (fun o h1 h2 h3 => eo o (by omega) (by omega) (by omega) (by omega) (by omega) h3) e205
  · intro k' hk'
    obtain ⟨j1, j2, j3⟩ := h.2.2.2.2.2.1 k' hk'
    rw [eo (19 + 6 * k') (by omega) (by omega) (by omega) (by omega) (by omega) (by omega), eo 207 (by omega) (by omega) (by omega) (by omega) (by omega) (by omega), e33]
    refine ⟨j1, j2, fun g => ?_⟩
    obtain ⟨j4, N2, j5, j6⟩ := j3 g
    exact ⟨rfl, N2, j5, snap_x j5 (fun j hj => getP_x (fun o h1 h2 => eo o (by omega) (by omega) (by omega) (by omega) (by omega) (by omega)) hj) (fun j hj => by rw [eo 206 (by omega) (by omega) (by omega) (by omega) (by omega) (by omega)]) j6⟩
/-- a day gone on both sides, after it was kept -/
theorem RR_day {m m' : Mm} {N X A R : Nat} (h : RR m) (h7 : N ≤ 7) (hX : X < 24) (hA : A ≤ 24) (hn : nowH N m (m 204)) (hb : BD N (m 204)) (ht : m 33 5 = m 199 7) (a1 : m 51 1 = nI X) (a2 : m 51 2 = nI A) (ha : cAc N X A m) (g1 : m 33 5 = 1) (hR : R ≤ 99) (hd : ¬ (m 204 3 = 9999))
    (em : m' = setR (remQ (putP (keepQ m 33 X) 33 (dayQ N (getP (keepQ m 33 X) 33) (nI R))) A) 204 (goQ N (m 204) (nI R))) : RR m' := by
  have ek : ∀ j, j < 6 → getP (keepQ m 33 X) 33 j = getP m 33 j := fun j hj => keepQ_at (by omega) (by omega)
  have hn2 : triQ N (getP (keepQ m 33 X) 33) (m 204) (fun _ => True) := triQ_x h7 ek (fun _ _ => rfl) hn
  have td := (tri_day (nI R) h7 hn2).2
  have eP : ∀ j, j < 6 → getP m' 33 j = dayQ N (getP (keepQ m 33 X) 33) (nI R) j := fun j hj => by
    show m' (33 + j) = _
    rw [em, setR_n _ _ (by omega), remQ_at (by omega) (by omega)]
    exact putP_at _ _ _ hj
  have e204 : m' 204 = goQ N (m 204) (nI R) := by rw [em, setR_s]
  refine RR_act h h7 hX hA hn hb ht a1 a2 ha g1 ⟨?_, ?_⟩ (fun j hj => ?_) (fun o o1 o2 o3 o4 o5 o6 => ?_) ?_ ?_ ?_ ?_ ?_
  · rw [em, setR_n _ _ (by decide), remQ_at (by decide) (by decide), putP_o _ _ (by omega)]
    unfold keepQ nxX
    rw [upM_s, upd_n _ _ (by decide), upM_s, upd_s]
  · rw [em, setR_n _ _ (by decide), remQ_at (by decide) (by decide), putP_o _ _ (by omega)]
    unfold keepQ
    rw [upM_s, upd_s, a2]
    exact mn24 hA
  · rw [em, setR_n _ _ (by omega), remQ_at (by omega) (by omega), putP_o _ _ (by omega)]
    unfold keepQ
    rw [upM_n _ _ _ (by omega), upM_n _ _ _ (by omega)]
    exact putP_at _ _ _ hj
  · rw [em, setR_n _ _ o2, remQ_at o1 o3, putP_o _ _ (by omega), keepQ_at o4 o6]
  · rw [em, setR_n _ _ (by decide), remQ_199, putP_o _ _ (by omega), keepQ_at (by decide) (by omega)]
  · rw [em, setR_n _ _ (by decide), remQ_205]
    unfold remB
    rw [putP_o _ _ (by omega), putP_o _ _ (by omega), keepQ_at (by decide) (by omega), keepQ_at (by decide) (by omega)]
  · have e2 : m' 33 = dayQ N (getP (keepQ m 33 X) 33) (nI R) 0 := eP 0 (by omega)
    rw [e2]
    have e3 : dayQ N (getP (keepQ m 33 X) 33) (nI R) 0 5 = getP (keepQ m 33 X) 33 0 5 := rfl
    rw [e3, ek 0 (by omega)]
    exact g1
  · rw [e204]
    exact triQ_x h7 eP (fun _ _ => rfl) td
  · rw [e204]
    refine BD_go h7 hR hb (fun D d1 d2 => ?_)
    rw [d1] at hd
    have : ¬ D = 9999 := fun g => hd (by rw [g]; rfl)
    omega
theorem BD_3 {N : Nat} {a : Nat → Int32} (hb : BD N a) : (a 3 < 9999) = ¬ (a 3 = 9999) := by
  obtain ⟨nt, rm, D, b1, b2, b3, b4, b5, b6, b7⟩ := hb
  rw [b5]
  have e1 : (nI D < 9999) = (D < 9999) := ltN (a := D) (b := 9999) (by omega) (by omega)
  have e2 : (nI D = 9999) = (D = 9999) := eqN (a := D) (b := 9999) (by omega) (by omega)
  rw [e1, e2]
  refine propext ?_
  omega
