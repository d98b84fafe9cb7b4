/-! a word's number tells the word -/
def hW (i : Nat) : Nat → Nat
  | 0 => 0
  | k + 1 => 32 * hW i k + (wd i k - 96)
def cW (i : Nat) : Nat := [12343, 23937287397, 99725, 395097, 17383076, 659111367, 1803621].getD i 0
theorem cW_h : ∀ i : Nat, i < 7 → cW i = hW i (wl i) := by decide +kernel
theorem h_un {B : Nat → Nat} {s i : Nat} (hi : i < 7) : ∀ (n k : Nat), k ≤ wl i → (∀ j, j < n → isL (B (s + j)) = true) → (hG 32 96 B s n = hW i k ↔ n = k ∧ ∀ j, j < k → B (s + j) = wd i j) := by
  intro n
  induction n with
  | zero =>
    intro k hk _
    cases k with
    | zero => exact ⟨fun _ => ⟨rfl, fun j hj => by omega⟩, fun _ => rfl⟩
    | succ k =>
      have w := wd_b i hi k (by omega)
      refine ⟨fun h => ?_, fun h => by omega⟩
      rw [hG, hW] at h
      omega
  | succ n ih =>
    intro k hk hL
    have hl := hL n (by omega)
    simp [isL] at hl
    cases k with
    | zero =>
      refine ⟨fun h => ?_, fun h => by omega⟩
      rw [hG, hW] at h
      omega
    | succ k =>
      have w := wd_b i hi k (by omega)
      have g := ih k (by omega) (fun j hj => hL j (by omega))
      rw [hG, hW]
      refine ⟨fun h => ?_, fun h => ?_⟩
      · have e1 : hG 32 96 B s n = hW i k := by omega
        have e2 : B (s + n) = wd i k := by omega
        obtain ⟨e3, e4⟩ := g.mp e1
        subst e3
        refine ⟨rfl, fun j hj => ?_⟩
        by_cases e : j = n
        · rw [e]; exact e2
        · exact e4 j (by omega)
      · obtain ⟨e3, e4⟩ := h
        have e3 : n = k := by omega
        subst e3
        rw [g.mpr ⟨rfl, fun j hj => e4 j (by omega)⟩, e4 n (by omega)]
theorem smW_iff {B : Nat → Nat} {s i : Nat} : ∀ (k v : Nat), smW B s i v k = true ↔ ∀ j, v ≤ j → j < v + k → B (s + j) = wd i j := by
  intro k
  induction k with
  | zero => intro v; exact ⟨fun _ j h1 h2 => by omega, fun _ => rfl⟩
  | succ k ih =>
    intro v
    rw [smW]
    by_cases h : B (s + v) = wd i v
    · rw [if_pos h, ih]
      refine ⟨fun g j h1 h2 => ?_, fun g j h1 h2 => g j (by omega) (by omega)⟩
      by_cases e : j = v
      · rw [e]; exact h
      · exact g j (by omega) (by omega)
    · rw [if_neg h]
      exact ⟨fun g => absurd g (by decide), fun g => absurd (g v (by omega) (by omega)) h⟩
theorem spW_iff {B : Nat → Nat} {s e i : Nat} : spW B s e i = true ↔ e - s = wl i ∧ ∀ j, j < wl i → B (s + j) = wd i j := by
  unfold spW
  rw [Bool.and_eq_true, decide_eq_true_eq, smW_iff]
  exact ⟨fun h => ⟨h.1, fun j hj => h.2 j (by omega) (by omega)⟩, fun h => ⟨h.1, fun j _ hj => h.2 j (by omega)⟩⟩
theorem hG_b {B : Nat → Nat} {s : Nat} : ∀ n, (∀ j, j < n → isL (B (s + j)) = true) → hG 32 96 B s n < 32 ^ n := by
  intro n
  induction n with
  | zero => intro _; exact Nat.one_pos
  | succ n ih =>
    intro h
    have h1 := ih (fun j hj => h j (by omega))
    have h2 := h n (by omega)
    simp [isL] at h2
    rw [hG, Nat.pow_succ]
    omega
theorem i64e {a b : Nat} (ha : a < 9223372036854775808) (hb : b < 9223372036854775808) : (Int64.ofNat a = Int64.ofNat b) = (a = b) := by
  refine propext ⟨fun h => ?_, fun h => by rw [h]⟩
  have := congrArg Int64.toInt h
  rw [Int64.toInt_ofNat_of_lt (by omega), Int64.toInt_ofNat_of_lt (by omega)] at this
  omega
theorem cW_b : ∀ i : Nat, i < 7 → cW i < 9223372036854775808 ∧ (-1 : Int64) ≠ Int64.ofNat (cW i) := by decide +kernel
/-- the token is the word i: the model's way -/
theorem hash_iff {B : Nat → Nat} {T a i : Nat} (hi : i < 7) (ht : lxT B T a = 1) : (mV B T a = Int64.ofNat (cW i)) = (ltk B T a i = true) := by
  have hk : lxK B T a = 1 := by
    unfold lxT at ht
    split at ht
    · cases ht
    · exact ht
  have he : lxE B T a = wrN B 1 (T - lxS B T a) (lxS B T a) := by unfold lxE; rw [hk]; rfl
  have hL : ∀ j, j < lxE B T a - lxS B T a → isL (B (lxS B T a + j)) = true := fun j hj => by
    have := wrN_f B 1 (T - lxS B T a) (lxS B T a) (lxS B T a + j) (by omega) (by omega)
    rw [srL] at this
    exact this
  have hw := wl_b i hi
  have hc := cW_b i hi
  have e2 : (ltk B T a i = true) = (spW B (lxS B T a) (lxE B T a) i = true) := by
    unfold ltk
    rw [decide_eq_true ht, Bool.true_and]
  rw [e2]
  unfold mV
  rw [if_pos (Or.inl hk), hk]
  unfold vlS
  by_cases h8 : lxE B T a - lxS B T a ≤ 8
  · rw [if_pos h8, if_pos rfl, if_pos rfl]
    have hb := hG_b _ hL
    have hp : 32 ^ (lxE B T a - lxS B T a) ≤ 32 ^ 8 := Nat.pow_le_pow_right (by omega) h8
    have hp2 : (32 : Nat) ^ 8 < 9223372036854775808 := by decide
    rw [i64e (by omega) hc.1, cW_h i hi]
    refine propext ?_
    rw [h_un hi _ _ (Nat.le_refl _) hL, spW_iff]
  · rw [if_neg h8]
    refine propext ⟨fun h => absurd h hc.2, fun h => ?_⟩
    have := (spW_iff.mp h).1
    omega
