/-! rows copied: places -/
theorem sp2 {L : Nat} {i n : Int32} (hL : L ≤ 40) : (spI (nI L) i n = true) = (¬ i < 0 ∧ ¬ n < 0 ∧ i.toInt + n.toInt ≤ L) := by
  unfold spI
  by_cases h0 : i < 0
  · rw [decide_eq_true h0]
    exact propext ⟨fun h => by simp at h, fun h => absurd h0 h.1⟩
  · by_cases h1 : n < 0
    · rw [decide_eq_true h1, decide_eq_false h0]
      exact propext ⟨fun h => by simp at h, fun h => absurd h1 h.2.1⟩
    · have e : (nI L - i < n) = ¬ (i.toInt + n.toInt ≤ L) := by
        refine propext ?_
        have k0 := h0
        rw [Int32.lt_iff_toInt_lt, Int32.toInt_zero] at k0
        have hi := Int32.toInt_lt i
        have h2 : (nI L - i).toInt = (L : Int) - i.toInt := by
          rw [Int32.toInt_sub, nI_toInt (by omega)]
          exact Int.bmod_eq_of_le (by omega) (by omega)
        rw [Int32.lt_iff_toInt_lt, h2]
        omega
      rw [decide_eq_false h0, decide_eq_false h1]
      by_cases h2 : i.toInt + n.toInt ≤ L
      · have e2 : ¬ (nI L - i < n) := fun g => (e.mp g) h2
        rw [decide_eq_false e2]
        exact propext ⟨fun _ => ⟨h0, h1, h2⟩, fun _ => rfl⟩
      · have e2 : nI L - i < n := e.mpr h2
        rw [decide_eq_true e2]
        exact propext ⟨fun h => by simp at h, fun h => absurd h.2.2 h2⟩
theorem lg2 {L : Nat} {i n : Int32} (hL : L ≤ 40) : ((nI L).toInt64 < i.toInt64 + n.toInt64) = ¬ (i.toInt + n.toInt ≤ L) := by
  refine propext ?_
  have a1 := Int32.toInt_lt i
  have a2 := Int32.toInt_lt n
  have a3 := Int32.le_toInt i
  have a4 := Int32.le_toInt n
  have e : (i.toInt64 + n.toInt64).toInt = i.toInt + n.toInt := by
    rw [Int64.toInt_add, Int32.toInt_toInt64, Int32.toInt_toInt64]
    exact Int.bmod_eq_of_le (by omega) (by omega)
  rw [Int64.lt_iff_toInt_lt, e, Int32.toInt_toInt64, nI_toInt (by omega)]
  omega
