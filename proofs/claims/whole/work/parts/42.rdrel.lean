/-! both read the same -/
/-- what a plain's numbers are within -/
def BD (N : Nat) (a : Nat → Int32) : Prop := ∃ nt rm D : Nat, a 0 = nI nt ∧ nt ≤ 99 ∧ a 1 = nI rm ∧ rm ≤ 999 ∧ a 3 = nI D ∧ D ≤ 9999 ∧
  ∀ w, w < N → ∃ k x y z : Nat, a (5 + w) = nI k ∧ 1 ≤ k ∧ k ≤ 5 ∧ a (26 + w) = nI x ∧ x ≤ rm ∧ a (12 + w) = nI y ∧ y ≤ 99 ∧ a (19 + w) = nI z ∧ z ≤ 99
def plV (v : Nat) (q : Mm) (r : Nat → Int32) : Prop := triQ v q r (fun _ => True) ∧ q 0 5 = 1 ∧ BD v r ∧ (∀ w, w < 7 → q 5 w = 0 ∧ r (33 + w) = 0)
theorem stN_v {B : Nat → Nat} {T lo hi : Nat} {s : S3} (h0 : s.1 = 0) (h : (stN B T lo hi s).2.1 = 0) : lo ≤ (stN B T lo hi s).1 ∧ (stN B T lo hi s).1 ≤ hi := by
  unfold stN at h ⊢
  rw [if_pos h0] at h ⊢
  by_cases h1 : lxT B T s.2.2 = 2
  · rw [if_pos h1] at h ⊢
    by_cases h2 : lxV B T s.2.2 < lo ∨ hi < lxV B T s.2.2
    · rw [if_pos h2] at h
      exact absurd h (by show ¬ (2 : Nat) = 0; decide)
    · rw [if_neg h2]
      show lo ≤ lxV B T s.2.2 ∧ lxV B T s.2.2 ≤ hi
      omega
  · rw [if_neg h1] at h
    exact absurd h (by show ¬ (1 : Nat) = 0; decide)
theorem stK_v {B : Nat → Nat} {T : Nat} {s : S3} (h0 : s.1 = 0) (h : (stK B T s).2.1 = 0) : 1 ≤ (stK B T s).1 ∧ (stK B T s).1 ≤ 5 := by
  unfold stK at h ⊢
  rw [if_pos h0] at h ⊢
  by_cases h1 : kdN B T s.2.2 = 0
  · rw [if_pos h1] at h
    exact absurd h (by show ¬ (1 : Nat) = 0; decide)
  · rw [if_neg h1]
    have hk : kdN B T s.2.2 < 6 := by unfold kdN; split <;> (try split) <;> (try split) <;> (try split) <;> (try split) <;> omega
    show 1 ≤ kdN B T s.2.2 ∧ kdN B T s.2.2 ≤ 5
    omega
theorem v5_v {B : Nat → Nat} {T room P a : Nat} (h : (v5 B T room (0, P, a)).1 = 0) :
    (1 ≤ (v1 B T (0, P, a)).1 ∧ (v1 B T (0, P, a)).1 ≤ 5) ∧ (v2 B T room (0, P, a)).1 ≤ room ∧ (v3 B T room (0, P, a)).1 ≤ 99 ∧ (v4 B T room (0, P, a)).1 ≤ 99 := by
  have h4 : (v4 B T room (0, P, a)).2.1 = 0 := by
    by_cases g : (v4 B T room (0, P, a)).2.1 = 0
    · exact g
    · unfold v5 at h; rw [stS_f g] at h; exact absurd h g
  have h3 : (v3 B T room (0, P, a)).2.1 = 0 := by
    by_cases g : (v3 B T room (0, P, a)).2.1 = 0
    · exact g
    · unfold v4 at h4; rw [stN_f g] at h4; exact absurd h4 g
  have h2 : (v2 B T room (0, P, a)).2.1 = 0 := by
    by_cases g : (v2 B T room (0, P, a)).2.1 = 0
    · exact g
    · unfold v3 at h3; rw [stN_f g] at h3; exact absurd h3 g
  have h1 : (v1 B T (0, P, a)).2.1 = 0 := by
    by_cases g : (v1 B T (0, P, a)).2.1 = 0
    · exact g
    · unfold v2 at h2; rw [stN_f g] at h2; exact absurd h2 g
  exact ⟨stK_v rfl h1, (stN_v h1 h2).2, (stN_v h2 h3).2, (stN_v h3 h4).2⟩
theorem vA_o {B : Nat → Nat} {T room v : Nat} {s : S3} {r : Nat → Int32} {j : Nat} (h : j ≠ 5 + v ∧ j ≠ 26 + v ∧ j ≠ 12 + v ∧ j ≠ 19 + v ∧ j ≠ 2) : vA B T room v s r j = r j := by
  unfold vA
  rw [upd_n _ _ h.2.2.2.2, upd_n _ _ h.2.2.2.1, upd_n _ _ h.2.2.1, upd_n _ _ h.2.1, upd_n _ _ h.1]
theorem plV_s {B : Nat → Nat} {T room v P a : Nat} {q : Mm} {r : Nat → Int32} (h7 : v < 7) (hr : r 1 = nI room) (hrm : room ≤ 999) (hz : (v5 B T room (0, P, a)).1 = 0) (h : plV v q r) : plV (v + 1) (vQ B T room v (0, P, a) q) (vA B T room v (0, P, a) r) := by
  obtain ⟨⟨⟨e0, e1, e2, e3, e4, e5, e6⟩, e7, e8⟩, h5, ⟨nt, rm, D, b1, b2, b3, b4, b5, b6, b7⟩, hl⟩ := h
  obtain ⟨w1, w2, w3, w4⟩ := v5_v hz
  have erm : rm = room := by
    have : nI rm = nI room := by rw [← b3, hr]
    rw [eqN (by omega) (by omega)] at this
    exact this
  subst erm
  have k5 : vA B T rm v (0, P, a) r (5 + v) = nI (v1 B T (0, P, a)).1 := by
    unfold vA; rw [upd_n _ _ (by omega), upd_n _ _ (by omega), upd_n _ _ (by omega), upd_n _ _ (by omega), upd_s]
  have k26 : vA B T rm v (0, P, a) r (26 + v) = nI (v2 B T rm (0, P, a)).1 := by
    unfold vA; rw [upd_n _ _ (by omega), upd_n _ _ (by omega), upd_n _ _ (by omega), upd_s]
  have k12 : vA B T rm v (0, P, a) r (12 + v) = nI (v3 B T rm (0, P, a)).1 := by
    unfold vA; rw [upd_n _ _ (by omega), upd_n _ _ (by omega), upd_s]
  have k19 : vA B T rm v (0, P, a) r (19 + v) = nI (v4 B T rm (0, P, a)).1 := by
    unfold vA; rw [upd_n _ _ (by omega), upd_s]
  have q1 : vQ B T rm v (0, P, a) q 1 = upd (q 1) v (nI (v1 B T (0, P, a)).1) := rfl
  have q2 : vQ B T rm v (0, P, a) q 2 = upd (q 2) v (nI (v2 B T rm (0, P, a)).1) := rfl
  have q3 : vQ B T rm v (0, P, a) q 3 = upd (q 3) v (nI (v3 B T rm (0, P, a)).1) := rfl
  have q4 : vQ B T rm v (0, P, a) q 4 = upd (q 4) v (nI (v4 B T rm (0, P, a)).1) := rfl
  have q5 : vQ B T rm v (0, P, a) q 5 = q 5 := rfl
  have q0 : ∀ j, j ≠ 8 → vQ B T rm v (0, P, a) q 0 j = q 0 j := fun j hj => upd_n _ _ hj
  refine ⟨⟨⟨?_, ?_, ?_, ?_, ?_, fun w hw => ?_, fun w hw _ => ?_⟩, rfl, ?_⟩, ?_, ⟨nt, rm, D, ?_, b2, ?_, b4, ?_, b6, fun w hw => ?_⟩, fun w hw => ?_⟩
  · rw [q0 6 (by decide), vA_o (by omega)]; exact e0
  · rw [q0 7 (by decide), vA_o (by omega)]; exact e1
  · rfl
  · rw [q0 9 (by decide), vA_o (by omega)]; exact e3
  · rw [q0 10 (by decide), vA_o (by omega)]; exact e4
  · rw [q1, q2, q3, q4]
    by_cases g : w = v
    · subst g
      rw [upd_s, upd_s, upd_s, upd_s, k5, k12, k19, k26]
      exact ⟨rfl, rfl, rfl, rfl⟩
    · rw [upd_n _ _ g, upd_n _ _ g, upd_n _ _ g, upd_n _ _ g, vA_o (by omega), vA_o (by omega), vA_o (by omega), vA_o (by omega)]
      exact e5 w (by omega)
  · rw [q5, vA_o (by omega), (hl w (by omega)).1, (hl w (by omega)).2]
  · rw [q0 5 (by decide)]; exact e8
  · rw [q0 5 (by decide)]; exact h5
  · rw [vA_o (by omega)]; exact b1
  · rw [vA_o (by omega)]; exact b3
  · rw [vA_o (by omega)]; exact b5
  · by_cases g : w = v
    · subst g
      exact ⟨_, _, _, _, k5, w1.1, w1.2, k26, w2, k12, w3, k19, w4⟩
    · rw [vA_o (by omega), vA_o (by omega), vA_o (by omega), vA_o (by omega)]
      exact b7 w (by omega)
  · rw [q5, vA_o (by omega)]; exact hl w hw
theorem s3z {s : S3} (h : s.1 = 0) : s = (0, s.2.1, s.2.2) := by
  obtain ⟨a, b, c⟩ := s
  have h : a = 0 := h
  rw [h]
theorem vQ_70 {B : Nat → Nat} {T room v : Nat} {s : S3} {r : Nat → Int32} (h : v < 7) : vA B T room v s r 1 = r 1 := vA_o (by omega)
theorem rd_rel {B : Nat → Nat} {T room : Nat} (hrm : room ≤ 999) : ∀ (k v P a : Nat) (q : Mm) (r : Nat → Int32), v + k = 8 → v ≤ 7 → plV v q r → r 1 = nI room →
    (rdL B T room k v (0, P, a) q).1.1 = (rdA B T room k v P a r).1.1 ∧ ((rdA B T room k v P a r).1.1 ≠ 0 → (rdL B T room k v (0, P, a) q).1.2.1 = (rdA B T room k v P a r).1.2.1) ∧ ((rdA B T room k v P a r).1.1 = 0 → ∃ N, N ≤ 7 ∧ plV N (rdL B T room k v (0, P, a) q).2 (rdA B T room k v P a r).2) := by
  intro k
  induction k with
  | zero => intro v P a q r h1 h2; omega
  | succ k ih =>
    intro v P a q r hv h7 hp hr
    have eL : rdL B T room (k + 1) v (0, P, a) q = if lxT B T a = 0 then ((0, P, lxE B T a), q) else if ltk B T a 1 then (if v = 7 then (bad B T 3 a, q) else rdL B T room k (v + 1) (v5 B T room (0, P, lxE B T a)) (vQ B T room v (0, P, lxE B T a) q)) else (bad B T 1 a, q) := rfl
    rw [eL, rdA]
    by_cases hE : lxT B T a = 0
    · rw [if_pos hE, if_pos hE]
      exact ⟨rfl, fun _ => rfl, fun _ => ⟨v, h7, hp⟩⟩
    · rw [if_neg hE, if_neg hE]
      by_cases hl : ltk B T a 1 = true
      · rw [if_pos hl]
        by_cases hv7 : v = 7
        · have e : vR B T room v P a = bad B T 3 a := by unfold vR; rw [if_pos hl, if_pos hv7]
          have n : ¬ (bad B T 3 a).1 = 0 := by show ¬ (3 : Nat) = 0; decide
          rw [if_pos hv7, e, if_neg n]
          exact ⟨rfl, fun _ => rfl, fun h => absurd h n⟩
        · have e : vR B T room v P a = v5 B T room (0, P, lxE B T a) := by unfold vR; rw [if_pos hl, if_neg hv7]
          rw [if_neg hv7, e]
          by_cases hz : (v5 B T room (0, P, lxE B T a)).1 = 0
          · rw [if_pos hz]
            have es : v5 B T room (0, P, lxE B T a) = (0, (v5 B T room (0, P, lxE B T a)).2.1, (v5 B T room (0, P, lxE B T a)).2.2) := s3z hz
            have := ih (v + 1) (v5 B T room (0, P, lxE B T a)).2.1 (v5 B T room (0, P, lxE B T a)).2.2 _ _ (by omega) (by omega) (plV_s (P := P) (a := lxE B T a) (by omega) hr hrm hz hp) (by rw [vQ_70 (by omega)]; exact hr)
            rw [← es] at this
            exact this
          · rw [if_neg hz]
            have ek : ∃ k', k = k' + 1 := ⟨k - 1, by omega⟩
            obtain ⟨k', ek⟩ := ek
            subst ek
            have e2 : rdL B T room (k' + 1) (v + 1) (v5 B T room (0, P, lxE B T a)) (vQ B T room v (0, P, lxE B T a) q) = (v5 B T room (0, P, lxE B T a), vQ B T room v (0, P, lxE B T a) q) := by rw [rdL, if_neg hz]
            rw [e2]
            exact ⟨rfl, fun _ => rfl, fun h => absurd h hz⟩
      · have e : vR B T room v P a = bad B T 1 a := by unfold vR; rw [if_neg hl]
        have n : ¬ (bad B T 1 a).1 = 0 := by show ¬ (1 : Nat) = 0; decide
        rw [if_neg hl, e, if_neg n]
        exact ⟨rfl, fun _ => rfl, fun h => absurd h n⟩
/-- THE SAME TEXT -/
theorem read_rel {B : Nat → Nat} {T P : Nat} (q : Mm) (g : Nat → Int32) :
    (rdC B T P q).1.1 = (rdM B T P g).1.1 ∧ ((rdM B T P g).1.1 ≠ 0 → (rdC B T P q).1.2.1 = (rdM B T P g).1.2.1) ∧ ((rdM B T P g).1.1 = 0 → ∃ N, N ≤ 7 ∧ plV N (rdC B T P q).2 (rdM B T P g).2) := by
  unfold rdC rdM
  by_cases hz : (r4 B T P).1 = 0
  · rw [if_pos hz]
    have es : r4 B T P = (0, (r4 B T P).2.1, (r4 B T P).2.2) := s3z hz
    have h3 : (r3 B T P).2.1 = 0 := by
      by_cases g : (r3 B T P).2.1 = 0
      · exact g
      · unfold r4 at hz; rw [stS_f g] at hz; exact absurd hz g
    have h2 : (r2 B T P).2.1 = 0 := by
      by_cases g : (r2 B T P).2.1 = 0
      · exact g
      · unfold r3 at h3; rw [stN_f g] at h3; exact absurd h3 g
    have h1 : (r1 B T P).1 = 0 := by
      by_cases g : (r1 B T P).1 = 0
      · exact g
      · unfold r2 at h2; rw [stN_f g] at h2; exact absurd h2 g
    have b2 := (stN_v h1 h2).2
    have b3 := (stN_v h2 h3).2
    have := rd_rel (B := B) (T := T) (room := (r3 B T P).1) b3 8 0 (r4 B T P).2.1 (r4 B T P).2.2 (beginQ q (nI (r2 B T P).1) (nI (r3 B T P).1)) (upd (upd (zr g 40) 0 (nI (r2 B T P).1)) 1 (nI (r3 B T P).1)) (by omega) (by omega) ?_ rfl
    · rw [← es] at this
      exact this
    · refine ⟨⟨⟨rfl, rfl, rfl, rfl, rfl, fun w hw => by omega, fun w hw => by omega⟩, rfl, Or.inr rfl⟩, rfl, ⟨_, _, 0, rfl, b2, rfl, b3, rfl, by omega, fun w hw => by omega⟩, fun w hw => ⟨?_, ?_⟩⟩
      · show (if w < 7 then (0 : Int32) else _) = 0
        rw [if_pos hw]
      · rw [upd_n _ _ (by omega), upd_n _ _ (by omega)]
        exact if_pos (by omega)
  · rw [if_neg hz]
    have e : rdL B T (r3 B T P).1 8 0 (r4 B T P) (beginQ q (nI (r2 B T P).1) (nI (r3 B T P).1)) = (r4 B T P, beginQ q (nI (r2 B T P).1) (nI (r3 B T P).1)) := by rw [rdL, if_neg hz]
    rw [e]
    exact ⟨rfl, fun _ => rfl, fun h => absurd h hz⟩
