/-! tokens on the model's side -/
def mp (f : Nat → Int32) (fl a b t : Int32) : Nat → Int32 := fun k => if k = 6 then fl else if k = 15 then a else if k = 16 then b else if k = 17 then t else f k
theorem mp_5 (f : Nat → Int32) (fl a b t : Int32) : mp f fl a b t 5 = f 5 := rfl
theorem mp_6 (f : Nat → Int32) (fl a b t : Int32) : mp f fl a b t 6 = fl := rfl
theorem mp_15 (f : Nat → Int32) (fl a b t : Int32) : mp f fl a b t 15 = a := rfl
theorem mp_16 (f : Nat → Int32) (fl a b t : Int32) : mp f fl a b t 16 = b := rfl
theorem mp_17 (f : Nat → Int32) (fl a b t : Int32) : mp f fl a b t 17 = t := rfl
theorem mp_19 (f : Nat → Int32) (fl a b t : Int32) : mp f fl a b t 19 = f 19 := rfl
theorem um_6 (f : Nat → Int32) (fl a b t x : Int32) : upd (mp f fl a b t) 6 x = mp f x a b t := by
  funext k
  unfold upd mp
  by_cases h : k = 6
  · rw [if_pos h, if_pos h]
  · rw [if_neg h, if_neg h, if_neg h]
theorem um_15 (f : Nat → Int32) (fl a b t x : Int32) : upd (mp f fl a b t) 15 x = mp f fl x b t := by
  funext k
  unfold upd mp
  by_cases h : k = 15
  · subst h; rfl
  · rw [if_neg h, if_neg h, if_neg h]
theorem um_16 (f : Nat → Int32) (fl a b t x : Int32) : upd (mp f fl a b t) 16 x = mp f fl a x t := by
  funext k
  unfold upd mp
  by_cases h : k = 16
  · subst h; rfl
  · rw [if_neg h, if_neg h, if_neg h]
theorem um_17 (f : Nat → Int32) (fl a b t x : Int32) : upd (mp f fl a b t) 17 x = mp f fl a b x := by
  funext k
  unfold upd mp
  by_cases h : k = 17
  · subst h; rfl
  · rw [if_neg h, if_neg h, if_neg h]
theorem mp_id (f : Nat → Int32) : mp f (f 6) (f 15) (f 16) (f 17) = f := by
  funext k
  unfold mp
  by_cases h2 : k = 6
  · rw [if_pos h2, h2]
  by_cases h3 : k = 15
  · rw [if_neg h2, if_pos h3, h3]
  by_cases h4 : k = 16
  · rw [if_neg h2, if_neg h3, if_pos h4, h4]
  by_cases h5 : k = 17
  · rw [if_neg h2, if_neg h3, if_neg h4, if_pos h5, h5]
  · rw [if_neg h2, if_neg h3, if_neg h4, if_neg h5]
theorem s199 (m : Mm) (F : Nat → Int32) : setR m 199 F 199 = F := setR_s m 199 F
theorem s199_203 (m : Mm) (F : Nat → Int32) : setR m 199 F 203 = m 203 := setR_n m F (by decide)
theorem s199_209 (m : Mm) (F : Nat → Int32) : setR m 199 F 209 = m 209 := setR_n m F (by decide)
theorem uL_r (l : Ml) (x : Int64) : upL l 199 18 x 199 18 = x := rfl
theorem uL_u (l : Ml) (x y : Int64) : upL (upL l 199 18 x) 199 18 y = upL l 199 18 y := by
  funext b
  unfold upL
  by_cases h : b = 199
  · rw [if_pos h, if_pos h]
    funext j
    by_cases h2 : j = 18
    · rw [if_pos h2, if_pos h2]
    · rw [if_neg h2, if_neg h2, if_pos rfl, if_neg h2]
  · rw [if_neg h, if_neg h, if_neg h]
def tpM (m : Mm) (B : Nat → Nat) (T : Nat) : Prop := T ≤ 400 ∧ ∀ k, k < T → B k < 256 ∧ m 203 k = nI (B k)
theorem nI_L {n : Nat} (h : n < 256) : (¬ nI n < 97 ∧ ¬ 122 < nI n) = (isL n = true) := propext ((by decide +kernel : ∀ n : Nat, n < 256 → ((¬ nI n < 97 ∧ ¬ 122 < nI n) ↔ isL n = true)) n h)
theorem nI_F {n : Nat} (h : n < 256) : (¬ nI n < 48 ∧ ¬ 57 < nI n) = (isF n = true) := propext ((by decide +kernel : ∀ n : Nat, n < 256 → ((¬ nI n < 48 ∧ ¬ 57 < nI n) ↔ isF n = true)) n h)
theorem t_sort {K : Cx} {d n : Nat} {σ : Sg} {m : Mm} {l : Ml} {Q : Rt} (h : n < 256) (hQ : Q (nI (srN n)) σ m l) : CT K (d + 2) YX6_sort [.int (nI n)] σ m l Q := by
  refine kX6_sort ?_
  simp only [xX6_sort_0, xX6_sort_1, xX6_sort_2, xX6_sort_5, xX6_sort_8, xX6_sort_11, xX6_sort_14, xX6_sort_15, xX6_sort_18, xX6_sort_19, xX6_sort_20, xX6_sort_23, xX6_sort_26, xX6_sort_29, xX6_sort_32, xX6_sort_33, xX6_sort_36, xX6_sort_37, xX6_sort_39, xX6_sort_42, xX6_sort_43, xX6_sort_46, xX6_sort_47, Bool.false_eq_true, if_true, if_false, kl_i, kl_a, kl_s, kl_u, kl_l, okS_nil, okS_cons, cat_i, cat_a, cat_s, cat_l, Nat.reduceAdd, Nat.reduceLeDiff, Nat.reduceSub, Nat.sub_zero, Nat.sub_self, Nat.zero_add, Nat.le_refl, Nat.zero_le, List.length_cons, List.length_nil, true_and, and_true, true_or, or_true, eq_self, forall_const, true_implies, not_true_eq_false, not_false_eq_true, false_implies, implies_true, false_and, and_false, false_or, or_false]
  refine t_inI (a := 97) (b := 122) (by decide) (by decide) ?_
  have e1 := nI_L h
  have e2 := nI_F h
  by_cases h1 : isL n = true
  · have es : srN n = 1 := srL.mpr h1
    rw [es] at hQ
    rw [if_pos (e1.mpr h1)]
    simp only [xX6_sort_0, xX6_sort_1, xX6_sort_2, xX6_sort_5, xX6_sort_8, xX6_sort_11, xX6_sort_14, xX6_sort_15, xX6_sort_18, xX6_sort_19, xX6_sort_20, xX6_sort_23, xX6_sort_26, xX6_sort_29, xX6_sort_32, xX6_sort_33, xX6_sort_36, xX6_sort_37, xX6_sort_39, xX6_sort_42, xX6_sort_43, xX6_sort_46, xX6_sort_47, Bool.false_eq_true, if_true, if_false, kl_i, kl_a, kl_s, kl_u, kl_l, okS_nil, okS_cons, cat_i, cat_a, cat_s, cat_l, Nat.reduceAdd, Nat.reduceLeDiff, Nat.reduceSub, Nat.sub_zero, Nat.sub_self, Nat.zero_add, Nat.le_refl, Nat.zero_le, List.length_cons, List.length_nil, true_and, and_true, true_or, or_true, eq_self, forall_const, true_implies, not_true_eq_false, not_false_eq_true, false_implies, implies_true, false_and, and_false, false_or, or_false, i10]
    exact hQ
  · rw [if_neg (fun g => h1 (e1.mp g))]
    simp only [xX6_sort_0, xX6_sort_1, xX6_sort_2, xX6_sort_5, xX6_sort_8, xX6_sort_11, xX6_sort_14, xX6_sort_15, xX6_sort_18, xX6_sort_19, xX6_sort_20, xX6_sort_23, xX6_sort_26, xX6_sort_29, xX6_sort_32, xX6_sort_33, xX6_sort_36, xX6_sort_37, xX6_sort_39, xX6_sort_42, xX6_sort_43, xX6_sort_46, xX6_sort_47, Bool.false_eq_true, if_true, if_false, kl_i, kl_a, kl_s, kl_u, kl_l, okS_nil, okS_cons, cat_i, cat_a, cat_s, cat_l, Nat.reduceAdd, Nat.reduceLeDiff, Nat.reduceSub, Nat.sub_zero, Nat.sub_self, Nat.zero_add, Nat.le_refl, Nat.zero_le, List.length_cons, List.length_nil, true_and, and_true, true_or, or_true, eq_self, forall_const, true_implies, not_true_eq_false, not_false_eq_true, false_implies, implies_true, false_and, and_false, false_or, or_false]
    refine t_inI (a := 48) (b := 57) (by decide) (by decide) ?_
    by_cases h2 : isF n = true
    · have es : srN n = 2 := srF.mpr h2
      rw [es] at hQ
      rw [if_pos (e2.mpr h2)]
      simp only [xX6_sort_0, xX6_sort_1, xX6_sort_2, xX6_sort_5, xX6_sort_8, xX6_sort_11, xX6_sort_14, xX6_sort_15, xX6_sort_18, xX6_sort_19, xX6_sort_20, xX6_sort_23, xX6_sort_26, xX6_sort_29, xX6_sort_32, xX6_sort_33, xX6_sort_36, xX6_sort_37, xX6_sort_39, xX6_sort_42, xX6_sort_43, xX6_sort_46, xX6_sort_47, Bool.false_eq_true, if_true, if_false, kl_i, kl_a, kl_s, kl_u, kl_l, okS_nil, okS_cons, cat_i, cat_a, cat_s, cat_l, Nat.reduceAdd, Nat.reduceLeDiff, Nat.reduceSub, Nat.sub_zero, Nat.sub_self, Nat.zero_add, Nat.le_refl, Nat.zero_le, List.length_cons, List.length_nil, true_and, and_true, true_or, or_true, eq_self, forall_const, true_implies, not_true_eq_false, not_false_eq_true, false_implies, implies_true, false_and, and_false, false_or, or_false, i10]
      exact hQ
    · rw [if_neg (fun g => h2 (e2.mp g))]
      have es := sr4 n (by simpa using h1) (by simpa using h2)
      have c1 : (nI n = 59) = (n = 59) := eqN (a := n) (b := 59) (by omega) (by omega)
      simp only [xX6_sort_0, xX6_sort_1, xX6_sort_2, xX6_sort_5, xX6_sort_8, xX6_sort_11, xX6_sort_14, xX6_sort_15, xX6_sort_18, xX6_sort_19, xX6_sort_20, xX6_sort_23, xX6_sort_26, xX6_sort_29, xX6_sort_32, xX6_sort_33, xX6_sort_36, xX6_sort_37, xX6_sort_39, xX6_sort_42, xX6_sort_43, xX6_sort_46, xX6_sort_47, Bool.false_eq_true, if_true, if_false, kl_i, kl_a, kl_s, kl_u, kl_l, okS_nil, okS_cons, cat_i, cat_a, cat_s, cat_l, Nat.reduceAdd, Nat.reduceLeDiff, Nat.reduceSub, Nat.sub_zero, Nat.sub_self, Nat.zero_add, Nat.le_refl, Nat.zero_le, List.length_cons, List.length_nil, true_and, and_true, true_or, or_true, eq_self, forall_const, true_implies, not_true_eq_false, not_false_eq_true, false_implies, implies_true, false_and, and_false, false_or, or_false, c1]
      rw [es] at hQ
      by_cases h3 : n = 59
      · rw [if_pos h3] at hQ
        exact ⟨fun _ => hQ, fun g => absurd h3 g⟩
      · rw [if_neg h3] at hQ
        exact ⟨fun g => absurd g h3, fun _ => hQ⟩
def hG (b o : Nat) (B : Nat → Nat) (s : Nat) : Nat → Nat
  | 0 => 0
  | i + 1 => b * hG b o B s i + (B (s + i) - o)
def vlS (t : Nat) (B : Nat → Nat) (s i : Nat) : Int64 := if i ≤ 8 then Int64.ofNat (hG (if t = 1 then 32 else 10) (if t = 1 then 96 else 48) B s i) else -1
theorem vG (B : Nat → Nat) (s : Nat) : ∀ k, k ≤ 3 → vN B s k = hG 10 48 B s k := by
  intro k
  induction k with
  | zero => intro _; rfl
  | succ k ih => intro h; rw [vN, hG, if_pos (by omega), ih (by omega)]
theorem c64 (n : Nat) (h : n < 256) : (nI n).toInt64 = Int64.ofNat n := (by decide +kernel : ∀ n : Nat, n < 256 → (nI n).toInt64 = Int64.ofNat n) n h
theorem s64 (h n o : Nat) (b : Int64) (k : Nat) (hb : b = Int64.ofNat k) (hn : n < 256) (ho : o ≤ n) : b * Int64.ofNat h + (nI n).toInt64 - Int64.ofNat o = Int64.ofNat (k * h + (n - o)) := by
  rw [c64 n hn, hb, ← Int64.ofNat_mul, ← Int64.ofNat_add]
  have e : k * h + n = (k * h + (n - o)) + o := by omega
  rw [e, Int64.ofNat_add, Int64.add_sub_cancel]
