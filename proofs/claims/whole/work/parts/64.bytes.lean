/-! bytes of a long, on both tapes -/
def y8 (y : Int64) : Nat := y.toBitVec.toNat % 256
theorem y8_b (y : Int64) : y8 y < 256 := Nat.mod_lt _ (by decide)
theorem y8_m (y : Int64) : (y &&& 255).toInt32 = nI (y8 y) := by
  apply Int32.toInt_inj.mp
  have hb : (y &&& 255).toBitVec.toNat = y8 y := by
    have e : (y &&& 255).toBitVec = y.toBitVec &&& 255#64 := Int64.toBitVec_and ..
    rw [e, BitVec.toNat_and]
    exact Nat.and_two_pow_sub_one_eq_mod y.toBitVec.toNat 8
  have hlt := y8_b y
  have ht : (y &&& 255).toInt = (y8 y : Int) := by
    have e : (y &&& 255).toInt = (y &&& 255).toBitVec.toInt := rfl
    rw [e, BitVec.toInt_eq_toNat_of_lt (by omega), hb]
  rw [Int64.toInt_toInt32, ht, nI_toInt (by omega)]
  exact Int.bmod_eq_of_le (by omega) (by omega)
theorem y8_c0 (y : Int64) : y.toInt32.toInt8 = (nI (y8 y)).toInt8 := by
  apply Int8.toInt_inj.mp
  have hlt := y8_b y
  rw [Int32.toInt_toInt8, Int32.toInt_toInt8, Int64.toInt_toInt32, nI_toInt (by omega)]
  have e : y.toInt = y.toBitVec.toInt := rfl
  rw [e, BitVec.toInt_eq_toNat_cond]
  have hn := y.toBitVec.isLt
  unfold y8
  simp only [Int.bmod_def]
  split <;> (repeat' split) <;> omega
theorem i8i (x : Int8) : x.toInt32.toInt8 = x := by simp
theorem y8_c (y : Int64) : y.toInt32.toInt8.toInt32.toInt8.toInt32 = bt (y8 y) := by
  rw [i8i, y8_c0]
  rfl
def wsh (w : Int64) (k : Nat) : Int64 := w >>> ((8 * nI k).toInt64 &&& 63)
def newB (B : Nat → Nat) (T n : Nat) (w : Int64) (j : Nat) : Nat := if j < T then B j else y8 (wsh w (T + n - 1 - j))
theorem l_ap {K : Cx} {d : Nat} {σ : Sg} {m : Mm} {l : Ml} {T n : Nat} {B : Nat → Nat} {w : Int64} {F : Nat → Int32} {Q : Rt} (hw : wfT σ) (h8 : n ≤ 8) (hn : T + n ≤ 400) : ∀ (k i : Nat) (g : Nat → Int32) (e2 : Value), i + k = n → (∀ j, j < T + i → g j = bt (newB B T n w j)) →
    (∀ g', (∀ j, j < T + n → g' j = bt (newB B T n w j)) → Q 0 σ (setR (setR m 32 g') 31 (upd F 1 (nI (T + n)))) l) → WX (tX3_append K d) Q (5, [.ref 31, .long w, e2, .int (nI n), .int (pv k)], [], (0, 0), σ, setR (setR m 32 g) 31 (upd F 1 (nI (T + i))), l) := by
  obtain ⟨T1, T2, T3, T4⟩ := hw
  intro k
  induction k with
  | zero =>
    intro i g e2 hi hg hQ
    have c1 : (pv 0 < 0) = True := eq_true (by decide)
    have e : i = n := by omega
    subst e
    rw [xX3_append_5]
    simp only [xX3_append_7, xX3_append_10, xX3_append_11, xX3_append_14, xX3_append_17, xX3_append_20, xX3_append_21, xX3_append_24, xX3_append_25, xX3_append_28, xX3_append_29, xX3_append_31, xX3_append_33, xX3_append_34, xX3_append_35, xX3_append_36, xX3_append_37, xX3_append_38, xX3_append_39, xX3_append_40, xX3_append_43, xX3_append_44, xX3_append_45, xX3_append_48, xX3_append_51, xX3_append_54, Bool.false_eq_true, if_true, if_false, kl_i, kl_a, kl_s, kl_u, kl_l, okS_nil, okS_cons, cat_i, cat_a, cat_s, cat_l, Nat.reduceAdd, Nat.reduceLeDiff, Nat.reduceSub, Nat.sub_zero, Nat.sub_self, Nat.zero_add, Nat.le_refl, Nat.zero_le, List.length_cons, List.length_nil, true_and, and_true, true_or, or_true, eq_self, forall_const, true_implies, not_true_eq_false, not_false_eq_true, false_implies, implies_true, false_and, and_false, false_or, or_false, c1]
    exact hQ g hg
  | succ k ih =>
    intro i g e2 hi hg hQ
    have c1 : (nI k < 0) = False := eq_false (nI_pos (by omega))
    have c4 : (nI (T + i) < 400) = True := (ltN (a := T + i) (b := 400) (by omega) (by omega)).trans (eq_true (by omega))
    have hcv := clN (v := T + i) (by omega)
    have hiv := inN (v := T + i) (n := 400) (by omega) (by omega)
    have ep : pv (k + 1) = nI k := rfl
    have g32 : ∀ F', setR (setR m 32 g) 31 F' 32 = g := fun F' => by rw [setR_n _ _ (by decide), setR_s]
    have u32 : ∀ F' j x, upM (setR (setR m 32 g) 31 F') 32 j x = setR (setR m 32 (upd g j x)) 31 F' := fun F' j x => by
      rw [upM_setR, g32, setR_comm _ _ _ (by decide), setR_setR]
    have u31' : ∀ g F' j x, upM (setR (setR m 32 g) 31 F') 31 j x = setR (setR m 32 g) 31 (upd F' j x) := fun g F' j x => by
      rw [upM_setR, setR_s, setR_setR]
    have uu : ∀ x y, upd (upd F 1 x) 1 y = upd F 1 y := fun x y => by
      funext j
      unfold upd
      split <;> rfl
    have key := ih (i + 1) (upd g (T + i) (w >>> ((8 * nI k).toInt64 &&& 63)).toInt32.toInt8.toInt32.toInt8.toInt32) e2 (by omega) (fun j hj => ?_) hQ
    · rw [xX3_append_5]
      simp only [xX3_append_7, xX3_append_10, xX3_append_11, xX3_append_14, xX3_append_17, xX3_append_20, xX3_append_21, xX3_append_24, xX3_append_25, xX3_append_28, xX3_append_29, xX3_append_31, xX3_append_33, xX3_append_34, xX3_append_35, xX3_append_36, xX3_append_37, xX3_append_38, xX3_append_39, xX3_append_40, xX3_append_43, xX3_append_44, xX3_append_45, xX3_append_48, xX3_append_51, xX3_append_54, Bool.false_eq_true, if_true, if_false, kl_i, kl_a, kl_s, kl_u, kl_l, okS_nil, okS_cons, cat_i, cat_a, cat_s, cat_l, Nat.reduceAdd, Nat.reduceLeDiff, Nat.reduceSub, Nat.sub_zero, Nat.sub_self, Nat.zero_add, Nat.le_refl, Nat.zero_le, List.length_cons, List.length_nil, true_and, and_true, true_or, or_true, eq_self, forall_const, true_implies, not_true_eq_false, not_false_eq_true, false_implies, implies_true, false_and, and_false, false_or, or_false, ep, c1, T1, T2, T3, T4, s31, upd_s, c4, hcv, hiv, u32, u31', uu, nI1, pv_s k (by omega)]
      exact key
    · by_cases h : j = T + i
      · subst h
        rw [upd_s, y8_c]
        unfold newB
        rw [if_neg (by omega), show T + n - 1 - (T + i) = k by omega]
        rfl
      · rw [upd_n _ _ h]; exact hg j (by omega)
theorem t_append {K : Cx} {d : Nat} {σ : Sg} {m : Mm} {l : Ml} {T n : Nat} {B : Nat → Nat} {w : Int64} {Q : Rt} (hw : wfT σ) (h1 : 1 ≤ n) (h8 : n ≤ 8) (hn : T + n ≤ 400) (hb : tpH m B T) (hT : m 31 1 = nI T)
    (hQ : ∀ g', (∀ j, j < T + n → g' j = bt (newB B T n w j)) → Q 0 σ (setR (setR m 32 g') 31 (upd (m 31) 1 (nI (T + n)))) l) : CT K (d + 1) YX3_append [.ref 31, .long w, .int (nI n)] σ m l Q := by
  refine kX3_append ?_
  have key := l_ap (K := K) (d := d) (m := m) (l := l) (T := T) (n := n) (B := B) (w := w) (F := m 31) (Q := Q) hw h8 hn n 0 (m 32) (.float 0) (by omega) (fun j hj => ?_) hQ
  · have e1 : setR (setR m 32 (m 32)) 31 (upd (m 31) 1 (nI (T + 0))) = m := by
      rw [setR_id]
      have : upd (m 31) 1 (nI (T + 0)) = m 31 := by
        funext j
        unfold upd
        by_cases h : j = 1
        · rw [if_pos h, h]; exact hT.symm
        · rw [if_neg h]
      rw [this, setR_id]
    rw [e1] at key
    have e2 : nI n - 1 = pv n := by
      obtain ⟨n', e⟩ : ∃ n', n = n' + 1 := ⟨n - 1, by omega⟩
      rw [e]
      exact nI_pred n'
    simp only [xX3_append_0, xX3_append_1, xX3_append_2, xX3_append_3, Bool.false_eq_true, if_true, if_false, kl_i, kl_a, kl_s, kl_u, kl_l, okS_nil, okS_cons, cat_i, cat_a, cat_s, cat_l, Nat.reduceAdd, Nat.reduceLeDiff, Nat.reduceSub, Nat.sub_zero, Nat.sub_self, Nat.zero_add, Nat.le_refl, Nat.zero_le, List.length_cons, List.length_nil, true_and, and_true, true_or, or_true, eq_self, forall_const, true_implies, not_true_eq_false, not_false_eq_true, false_implies, implies_true, false_and, and_false, false_or, or_false, e2]
    exact key
  · unfold newB
    rw [if_pos (by omega)]
    exact (hb.2 j (by omega)).2
theorem l_mf {K : Cx} {d : Nat} {σ : Sg} {m : Mm} {l : Ml} {T n : Nat} {B : Nat → Nat} {w : Int64} {F : Nat → Int32} {Q : Rt} (hm : wfM σ) (h8 : n ≤ 8) (hn : T + n ≤ 400) : ∀ (k i : Nat) (g : Nat → Int32) (e2 : Value), i + k = n → (∀ j, j < T + i → g j = nI (newB B T n w j)) →
    (∀ g', (∀ j, j < T + n → g' j = nI (newB B T n w j)) → Q (nI (T + n)) σ (setR (setR m 203 g') 199 (upd F 5 (nI (T + n)))) l) → WX (tX6_feed K d) Q (35, [.ref 199, .long w, e2, .int (nI n), .int (pv k)], [], (0, 0), σ, setR (setR m 203 g) 199 (upd F 5 (nI (T + i))), l) := by
  obtain ⟨M0, R0, R1, R2, R4, R8, R10, R11, R12, R14, R20, R21, R22, A200, L200, A201, L201, A202, L202, A203, L203, A204, L204, A205, L205, A206, L206, A207, L207, A208, L208, A209, L209, A210, L210, A211, L211⟩ := hm
  intro k
  induction k with
  | zero =>
    intro i g e2 hi hg hQ
    have c1 : (pv 0 < 0) = True := eq_true (by decide)
    have e : i = n := by omega
    subst e
    rw [xX6_feed_35]
    simp only [xX6_feed_37, xX6_feed_40, xX6_feed_41, xX6_feed_44, xX6_feed_45, xX6_feed_48, xX6_feed_49, xX6_feed_51, xX6_feed_53, xX6_feed_54, xX6_feed_55, xX6_feed_58, xX6_feed_59, xX6_feed_60, xX6_feed_61, xX6_feed_62, xX6_feed_63, xX6_feed_66, xX6_feed_67, xX6_feed_68, xX6_feed_71, xX6_feed_74, xX6_feed_77, xX6_feed_78, xX6_feed_81, Bool.false_eq_true, if_true, if_false, kl_i, kl_a, kl_s, kl_u, kl_l, okS_nil, okS_cons, cat_i, cat_a, cat_s, cat_l, Nat.reduceAdd, Nat.reduceLeDiff, Nat.reduceSub, Nat.sub_zero, Nat.sub_self, Nat.zero_add, Nat.le_refl, Nat.zero_le, List.length_cons, List.length_nil, true_and, and_true, true_or, or_true, eq_self, forall_const, true_implies, not_true_eq_false, not_false_eq_true, false_implies, implies_true, false_and, and_false, false_or, or_false, c1, M0, s199, upd_s]
    exact hQ g hg
  | succ k ih =>
    intro i g e2 hi hg hQ
    have c1 : (nI k < 0) = False := eq_false (nI_pos (by omega))
    have hcv := clN (v := T + i) (by omega)
    have hiv := inN (v := T + i) (n := 400) (by omega) (by omega)
    have ep : pv (k + 1) = nI k := rfl
    have g32 : ∀ F', setR (setR m 203 g) 199 F' 203 = g := fun F' => by rw [setR_n _ _ (by decide), setR_s]
    have u32 : ∀ F' j x, upM (setR (setR m 203 g) 199 F') 203 j x = setR (setR m 203 (upd g j x)) 199 F' := fun F' j x => by
      rw [upM_setR, g32, setR_comm _ _ _ (by decide), setR_setR]
    have uu : ∀ x y, upd (upd F 5 x) 5 y = upd F 5 y := fun x y => by
      funext j
      unfold upd
      split <;> rfl
    have key := ih (i + 1) (upd g (T + i) ((w >>> ((8 * nI k).toInt64 &&& 63)) &&& 255).toInt32) e2 (by omega) (fun j hj => ?_) hQ
    · rw [xX6_feed_35]
      simp only [xX6_feed_37, xX6_feed_40, xX6_feed_41, xX6_feed_44, xX6_feed_45, xX6_feed_48, xX6_feed_49, xX6_feed_51, xX6_feed_53, xX6_feed_54, xX6_feed_55, xX6_feed_58, xX6_feed_59, xX6_feed_60, xX6_feed_61, xX6_feed_62, xX6_feed_63, xX6_feed_66, xX6_feed_67, xX6_feed_68, xX6_feed_71, xX6_feed_74, xX6_feed_77, xX6_feed_78, xX6_feed_81, Bool.false_eq_true, if_true, if_false, kl_i, kl_a, kl_s, kl_u, kl_l, okS_nil, okS_cons, cat_i, cat_a, cat_s, cat_l, Nat.reduceAdd, Nat.reduceLeDiff, Nat.reduceSub, Nat.sub_zero, Nat.sub_self, Nat.zero_add, Nat.le_refl, Nat.zero_le, List.length_cons, List.length_nil, true_and, and_true, true_or, or_true, eq_self, forall_const, true_implies, not_true_eq_false, not_false_eq_true, false_implies, implies_true, false_and, and_false, false_or, or_false, ep, c1, M0, R4, A203, L203, s199, upd_s, hcv, hiv, u32, um199, uu, nI1, pv_s k (by omega)]
      exact key
    · by_cases h : j = T + i
      · subst h
        rw [upd_s, y8_m]
        unfold newB
        rw [if_neg (by omega), show T + n - 1 - (T + i) = k by omega]
        rfl
      · rw [upd_n _ _ h]; exact hg j (by omega)
