/-! calls that foretell: guards -/
def cb (s : Nat) : Nat := (bts (nI s)).toNatClampNeg
theorem cb_f : ∀ N : Nat, N < 8 → ∀ s : Nat, s < 128 → s < 2 ^ N → bts (nI s) = nI (cb s) ∧ cb s ≤ N := by decide +kernel
def gcM (N n : Nat) (a : Nat → Int32) : Nat → Nat → Int32
  | 0, _ => -1000000
  | k + 1, v => if lgM N n a (nI v) (2 ^ N) 0 = -1000000 then gcM N n a k (v + 1) else lgM N n a (nI v) (2 ^ N) 0
def gmM (N n : Nat) (a : Nat → Int32) : Nat → Nat → Int32 → Int32
  | 0, _, b => b
  | k + 1, s, b => gmM N n a k (s + 1) (if (b = -1000000 ∨ bts (nI s) < bts b) ∧ okG N n a s = true then nI s else b)
/-- the least set of those that do -/
def isB (P : Nat → Bool) (M : Nat) (r : Int32) : Prop := (r = -1000000 ∧ ∀ t, t < M → P t = false) ∨ ∃ s, s < M ∧ r = nI s ∧ P s = true ∧ ∀ t, t < M → P t = true → cb s < cb t ∨ (cb s = cb t ∧ s ≤ t)
theorem isB_u {P : Nat → Bool} {M : Nat} {r r' : Int32} (h : isB P M r) (h' : isB P M r') : r = r' := by
  rcases h with ⟨e, a⟩ | ⟨s, s1, s2, s3, s4⟩
  · rcases h' with ⟨e', _⟩ | ⟨s', s1', _, s3', _⟩
    · rw [e, e']
    · have := a s' s1'; rw [this] at s3'; cases s3'
  · rcases h' with ⟨_, a⟩ | ⟨s', s1', s2', s3', s4'⟩
    · have := a s s1; rw [this] at s3; cases s3
    · have h1 := s4 s' s1' s3'
      have h2 := s4' s s1 s3
      have : s = s' := by omega
      rw [s2, s2', this]
theorem nbs {s : Nat} (h : s < 128) : ¬ (nI s = -1000000) := (by decide +kernel : ∀ s : Nat, s < 128 → ¬ (nI s = -1000000)) s h
theorem lg_s {N n : Nat} {a : Nat → Int32} {many : Int32} : ∀ (k s M : Nat), s + k = M →
    ((lgM N n a many k s = -1000000 ∧ ∀ t, s ≤ t → t < M → ¬ (bts (nI t) = many ∧ okG N n a t = true)) ∨ ∃ t, s ≤ t ∧ t < M ∧ lgM N n a many k s = nI t ∧ (bts (nI t) = many ∧ okG N n a t = true) ∧ ∀ u, s ≤ u → u < t → ¬ (bts (nI u) = many ∧ okG N n a u = true)) := by
  intro k
  induction k with
  | zero => intro s M h; exact Or.inl ⟨rfl, fun t h1 h2 => by omega⟩
  | succ k ih =>
    intro s M h
    rw [lgM]
    by_cases hc : bts (nI s) = many ∧ okG N n a s = true
    · rw [if_pos hc]
      exact Or.inr ⟨s, Nat.le_refl _, by omega, rfl, hc, fun u h1 h2 => by omega⟩
    · rw [if_neg hc]
      rcases ih (s + 1) M (by omega) with ⟨e, q⟩ | ⟨t, t1, t2, t3, t4, t5⟩
      · refine Or.inl ⟨e, fun t h1 h2 => ?_⟩
        by_cases g : t = s
        · rw [g]; exact hc
        · exact q t (by omega) h2
      · refine Or.inr ⟨t, by omega, t2, t3, t4, fun u h1 h2 => ?_⟩
        by_cases g : u = s
        · rw [g]; exact hc
        · exact t5 u (by omega) h2
theorem gc_s {N n : Nat} {a : Nat → Int32} (h7 : N ≤ 7) : ∀ (k v : Nat), v + k = N + 1 → (∀ t, t < 2 ^ N → okG N n a t = true → v ≤ cb t) → isB (okG N n a) (2 ^ N) (gcM N n a k v) := by
  have hp := p27 N (by omega)
  intro k
  induction k with
  | zero =>
    intro v hv hc
    refine Or.inl ⟨rfl, fun t ht => ?_⟩
    cases h : okG N n a t
    · rfl
    · have := hc t ht h
      have := (cb_f N (by omega) t (by omega) ht).2
      omega
  | succ k ih =>
    intro v hv hc
    rw [gcM]
    rcases lg_s (N := N) (n := n) (a := a) (many := nI v) (2 ^ N) 0 (2 ^ N) (by omega) with ⟨e, q⟩ | ⟨t, t1, t2, t3, t4, t5⟩
    · rw [if_pos e]
      refine ih (v + 1) (by omega) (fun t ht hP => ?_)
      have h1 := hc t ht hP
      have h2 := (cb_f N (by omega) t (by omega) ht).1
      by_cases g : cb t = v
      · exact absurd ⟨by rw [h2, g], hP⟩ (q t (by omega) ht)
      · omega
    · rw [if_neg (by rw [t3]; exact nbs (by omega)), t3]
      have f1 := cb_f N (by omega) t (by omega) t2
      have ev : cb t = v := by
        have : nI (cb t) = nI v := by rw [← f1.1]; exact t4.1
        rw [eqN (by omega) (by omega)] at this
        exact this
      refine Or.inr ⟨t, t2, rfl, t4.2, fun u hu hP => ?_⟩
      have h1 := hc u hu hP
      have f2 := cb_f N (by omega) u (by omega) hu
      by_cases g : cb u = v
      · right
        refine ⟨by omega, ?_⟩
        by_cases g2 : t ≤ u
        · exact g2
        · exact absurd ⟨by rw [f2.1, g], hP⟩ (t5 u (by omega) (by omega))
      · left; omega
def gInv (P : Nat → Bool) (s : Nat) (b : Int32) : Prop := isB P s b
theorem gm_s {N n : Nat} {a : Nat → Int32} (h7 : N ≤ 7) : ∀ (k s : Nat) (b : Int32), s + k = 2 ^ N → isB (okG N n a) s b → isB (okG N n a) (2 ^ N) (gmM N n a k s b) := by
  have hp := p27 N (by omega)
  intro k
  induction k with
  | zero => intro s b h hb; rw [show s = 2 ^ N by omega] at hb; exact hb
  | succ k ih =>
    intro s b h hb
    rw [gmM]
    refine ih (s + 1) _ (by omega) ?_
    have f1 := cb_f N (by omega) s (by omega) (by omega)
    by_cases hc : (b = -1000000 ∨ bts (nI s) < bts b) ∧ okG N n a s = true
    · rw [if_pos hc]
      refine Or.inr ⟨s, by omega, rfl, hc.2, fun t ht hP => ?_⟩
      by_cases g : t = s
      · subst g; right; exact ⟨rfl, Nat.le_refl _⟩
      · rcases hb with ⟨e, q⟩ | ⟨u, u1, u2, u3, u4⟩
        · have := q t (by omega); rw [this] at hP; cases hP
        · have hlt : bts (nI s) < bts b := hc.1.resolve_left (by rw [u2]; exact nbs (by omega))
          have f2 := cb_f N (by omega) u (by omega) (by omega)
          rw [u2, f1.1, f2.1] at hlt
          have hlt2 : cb s < cb u := by
            have e := ltN (a := cb s) (b := cb u) (by omega) (by omega)
            exact e.mp hlt
          have := u4 t (by omega) hP
          left; omega
    · rw [if_neg hc]
      rcases hb with ⟨e, q⟩ | ⟨u, u1, u2, u3, u4⟩
      · refine Or.inl ⟨e, fun t ht => ?_⟩
        by_cases g : t = s
        · subst g
          cases h : okG N n a t
          · rfl
          · exact absurd ⟨Or.inl e, h⟩ hc
        · exact q t (by omega)
      · refine Or.inr ⟨u, by omega, u2, u3, fun t ht hP => ?_⟩
        by_cases g : t = s
        · subst g
          have f2 := cb_f N (by omega) u (by omega) (by omega)
          have hn : ¬ (bts (nI t) < bts b) := fun g => hc ⟨Or.inr g, hP⟩
          rw [u2, f1.1, f2.1] at hn
          have hn2 : ¬ cb t < cb u := fun g => hn ((ltN (a := cb t) (b := cb u) (by omega) (by omega)).mpr g)
          by_cases g3 : cb u < cb t
          · left; exact g3
          · right; omega
        · exact u4 t (by omega) hP
/-- THE SAME GUARDS -/
theorem gd_same {N n : Nat} {a : Nat → Int32} (h7 : N ≤ 7) : gcM N n a (N + 1) 0 = gmM N n a (2 ^ N) 0 (-1000000) :=
  isB_u (gc_s h7 (N + 1) 0 (by omega) (fun _ _ _ => Nat.zero_le _)) (gm_s h7 (2 ^ N) 0 _ (by omega) (Or.inl ⟨rfl, fun t ht => by omega⟩))
theorem l_gc {K : Cx} {d : Nat} {σ : Sg} {m0 : Mm} {l : Ml} {N n : Nat} {a : Nat → Int32} {Q : Rt} (hw : wfN σ) (h7 : N ≤ 7) (hn100 : n ≤ 100) (hn : nowH N m0 a) : ∀ (k v : Nat) (m : Mm) (e3 : Value), v + k = N + 1 → scr m0 m → (∀ m', scr m0 m' → Q (gcM N n a k v) σ m' l) → WX (tX5_guards K (d + 6)) Q (29, [.ref 0, .int (nI n), .int (nI v), e3], [], (0, 0), σ, m, l) := by
  have hw0 := hw
  obtain ⟨H0, F0, F1, F2, F3, F4, F5, F6, F7, P33, P39, P45⟩ := hw
  intro k
  induction k with
  | zero =>
    intro v m e3 hv hs hQ
    have h8 : m 33 8 = nI N := (nowH_scr hs hn).2.1
    have c1 : (nI N < nI v) = True := (ltN (by omega) (by omega)).trans (eq_true (by omega))
    rw [xX5_guards_29]
    simp only [xX5_guards_30, xX5_guards_31, xX5_guards_34, xX5_guards_37, xX5_guards_40, xX5_guards_41, xX5_guards_42, xX5_guards_43, xX5_guards_46, xX5_guards_47, xX5_guards_48, xX5_guards_50, xX5_guards_53, xX5_guards_54, xX5_guards_55, xX5_guards_58, xX5_guards_61, xX5_guards_63, Bool.false_eq_true, if_true, if_false, kl_i, kl_a, kl_s, kl_u, kl_l, okS_nil, okS_cons, cat_i, cat_a, cat_s, cat_l, Nat.reduceAdd, Nat.reduceLeDiff, Nat.reduceSub, Nat.sub_zero, Nat.sub_self, Nat.zero_add, Nat.le_refl, Nat.zero_le, List.length_cons, List.length_nil, true_and, and_true, true_or, or_true, eq_self, forall_const, true_implies, not_true_eq_false, not_false_eq_true, false_implies, implies_true, false_and, and_false, false_or, or_false, H0, F0, F1, F2, F3, F4, F5, F6, F7, P33.1, P39.1, P45.1, h8, c1]
    exact hQ _ hs
  | succ k ih =>
    intro v m e3 hv hs hQ
    have h8 : m 33 8 = nI N := (nowH_scr hs hn).2.1
    have c1 : (nI N < nI v) = False := (ltN (by omega) (by omega)).trans (eq_false (by omega))
    rw [xX5_guards_29]
    simp only [xX5_guards_30, xX5_guards_31, xX5_guards_34, xX5_guards_37, xX5_guards_40, xX5_guards_41, xX5_guards_42, xX5_guards_43, xX5_guards_46, xX5_guards_47, xX5_guards_48, xX5_guards_50, xX5_guards_53, xX5_guards_54, xX5_guards_55, xX5_guards_58, xX5_guards_61, xX5_guards_63, Bool.false_eq_true, if_true, if_false, kl_i, kl_a, kl_s, kl_u, kl_l, okS_nil, okS_cons, cat_i, cat_a, cat_s, cat_l, Nat.reduceAdd, Nat.reduceLeDiff, Nat.reduceSub, Nat.sub_zero, Nat.sub_self, Nat.zero_add, Nat.le_refl, Nat.zero_le, List.length_cons, List.length_nil, true_and, and_true, true_or, or_true, eq_self, forall_const, true_implies, not_true_eq_false, not_false_eq_true, false_implies, implies_true, false_and, and_false, false_or, or_false, H0, F0, F1, F2, F3, F4, F5, F6, F7, P33.1, P39.1, P45.1, h8, c1]
    refine t_leastGuards hw0 h7 hn100 hn hs (fun m' hs' => ?_)
    simp only [xX5_guards_30, xX5_guards_31, xX5_guards_34, xX5_guards_37, xX5_guards_40, xX5_guards_41, xX5_guards_42, xX5_guards_43, xX5_guards_46, xX5_guards_47, xX5_guards_48, xX5_guards_50, xX5_guards_53, xX5_guards_54, xX5_guards_55, xX5_guards_58, xX5_guards_61, xX5_guards_63, Bool.false_eq_true, if_true, if_false, kl_i, kl_a, kl_s, kl_u, kl_l, okS_nil, okS_cons, cat_i, cat_a, cat_s, cat_l, Nat.reduceAdd, Nat.reduceLeDiff, Nat.reduceSub, Nat.sub_zero, Nat.sub_self, Nat.zero_add, Nat.le_refl, Nat.zero_le, List.length_cons, List.length_nil, true_and, and_true, true_or, or_true, eq_self, forall_const, true_implies, not_true_eq_false, not_false_eq_true, false_implies, implies_true, false_and, and_false, false_or, or_false, nI1]
    rw [gcM] at hQ
    by_cases hc : lgM N n a (nI v) (2 ^ N) 0 = -1000000
    · rw [if_pos hc] at hQ
      have := ih (v + 1) m' (.int (lgM N n a (nI v) (2 ^ N) 0)) (by omega) hs' hQ
      first
        | exact ⟨fun _ => this, fun g => absurd hc g⟩
        | exact ⟨fun g => absurd hc g, fun _ => this⟩
    · rw [if_neg hc] at hQ
      first
        | exact ⟨fun g => absurd g hc, fun _ => hQ _ hs'⟩
        | exact ⟨fun _ => hQ _ hs', fun g => absurd g hc⟩
