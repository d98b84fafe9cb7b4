/-! reading, the model's side: the whole text -/
theorem vR_ok {B : Nat → Nat} {T room v P a : Nat} (ha : a ≤ T) : okS3 T (vR B T room v P a) := by
  unfold vR
  split
  · split
    · exact bad_ok (by omega) ha
    · exact v5_ok ⟨by show 0 < 4; omega, (lx_b ha).2.2.2⟩
  · exact bad_ok (by omega) ha
def rdA (B : Nat → Nat) (T room : Nat) : Nat → Nat → Nat → Nat → (Nat → Int32) → S3 × (Nat → Int32)
  | 0, _, P, a, r => ((0, P, a), r)
  | k + 1, v, P, a, r => if lxT B T a = 0 then ((0, P, lxE B T a), r) else if (vR B T room v P a).1 = 0 then rdA B T room k (v + 1) (vR B T room v P a).2.1 (vR B T room v P a).2.2 (vA B T room v (0, P, lxE B T a) r) else (vR B T room v P a, r)
theorem l_mr {K : Cx} {d T room : Nat} {σ : Sg} {m : Mm} {l : Ml} {B : Nat → Nat} {f : Nat → Int32} {fl : Int32} {Q : Rt} {e1 : Value} (hm : wfM σ) (hb : tpM m B T) (hT : f 19 = nI T) (hrm : room < 1000) : ∀ (k v P a : Nat) (r : Nat → Int32), v + k = 8 → v ≤ 7 → a ≤ T → r 2 = nI v → r 1 = nI room →
    ((rdA B T room k v P a r).1.1 = 0 → ∀ a' b t w, Q 1 σ (setR (setR m 209 (rdA B T room k v P a r).2) 199 (mp f fl a' b t)) (upL l 199 18 w)) →
    ((rdA B T room k v P a r).1.1 ≠ 0 → ∀ r' a' t w, Q 0 σ (setR (setR m 209 r') 199 (mp f (nI (rdA B T room k v P a r).1.1) a' (nI (rdA B T room k v P a r).1.2.1) t)) (upL l 199 18 w)) → WX (tX6_reads K (d + 5)) Q (97, [.ref 199, e1], [], (0, 0), σ, MS (setR m 209 r) f fl B T a, upL l 199 18 (mV B T a)) := by
  have hm0 := hm
  obtain ⟨M0, R0, R1, R2, R4, R8, R10, R11, R12, R14, R20, R21, R22, A200, L200, A201, L201, A202, L202, A203, L203, A204, L204, A205, L205, A206, L206, A207, L207, A208, L208, A209, L209, A210, L210, A211, L211⟩ := hm
  intro k
  induction k with
  | zero => intro v P a r h1 h2; omega
  | succ k ih =>
    intro v P a r hv h7 ha hr2 hr1 h1 h0
    have c0 : (nI (lxT B T a) = 0) = (lxT B T a = 0) := nT B T a (k := 0) (by omega)
    have hok := vR_ok (B := B) (room := room) (v := v) (P := P) ha
    unfold MS
    rw [xX6_reads_97]
    simp only [xX6_reads_98, xX6_reads_101, xX6_reads_104, xX6_reads_105, xX6_reads_108, xX6_reads_111, xX6_reads_112, xX6_reads_113, xX6_reads_114, xX6_reads_117, xX6_reads_120, xX6_reads_121, Bool.false_eq_true, if_true, if_false, kl_i, kl_a, kl_s, kl_u, kl_l, okS_nil, okS_cons, cat_i, cat_a, cat_s, cat_l, Nat.reduceAdd, Nat.reduceLeDiff, Nat.reduceSub, Nat.sub_zero, Nat.sub_self, Nat.zero_add, Nat.le_refl, Nat.zero_le, List.length_cons, List.length_nil, true_and, and_true, true_or, or_true, eq_self, forall_const, true_implies, not_true_eq_false, not_false_eq_true, false_implies, implies_true, false_and, and_false, false_or, or_false, s199, s199_203, s199_209, s209, um199, u199, setR_setR, mp_6, mp_15, mp_16, mp_17, mp_19, um_6, um_15, um_16, um_17, uL_r, uL_u, M0, R20, A209, L209, c0, i10]
    rw [rdA] at h1 h0
    by_cases hE : lxT B T a = 0
    · rw [if_pos hE] at h1
      exact ⟨fun _ => h1 rfl _ _ _ _, fun h => absurd hE h⟩
    · refine ⟨fun h => absurd h hE, fun _ => ?_⟩
      rw [if_neg hE] at h1 h0
      refine t_mVillage (P := P) (room := room) (v := v) hm0 hb hT ha h7 hr2 hr1 hrm (fun z b t w => ?_) (fun z r' a' t w => ?_)
      · rw [if_pos z] at h1 h0
        have hlt : v < 7 := by
          by_cases h : v = 7
          · exfalso
            unfold vR at z
            by_cases hl : ltk B T a 1 = true
            · rw [if_pos hl, if_pos h] at z
              exact absurd z (by show ¬ (3 : Nat) = 0; decide)
            · rw [if_neg hl] at z
              exact absurd z (by show ¬ (1 : Nat) = 0; decide)
          · omega
        simp only [xX6_reads_98, xX6_reads_101, xX6_reads_104, xX6_reads_105, xX6_reads_108, xX6_reads_111, xX6_reads_112, xX6_reads_113, xX6_reads_114, xX6_reads_117, xX6_reads_120, xX6_reads_121, Bool.false_eq_true, if_true, if_false, kl_i, kl_a, kl_s, kl_u, kl_l, okS_nil, okS_cons, cat_i, cat_a, cat_s, cat_l, Nat.reduceAdd, Nat.reduceLeDiff, Nat.reduceSub, Nat.sub_zero, Nat.sub_self, Nat.zero_add, Nat.le_refl, Nat.zero_le, List.length_cons, List.length_nil, true_and, and_true, true_or, or_true, eq_self, forall_const, true_implies, not_true_eq_false, not_false_eq_true, false_implies, implies_true, false_and, and_false, false_or, or_false, s199, s199_203, s199_209, s209, um199, u199, setR_setR, mp_6, mp_15, mp_16, mp_17, mp_19, um_6, um_15, um_16, um_17, uL_r, uL_u, M0, R20, A209, L209, i10]
        refine t_next hm0 (tpM_209 hb) hT hok.2 ?_
        simp only [xX6_reads_98, xX6_reads_101, xX6_reads_104, xX6_reads_105, xX6_reads_108, xX6_reads_111, xX6_reads_112, xX6_reads_113, xX6_reads_114, xX6_reads_117, xX6_reads_120, xX6_reads_121, Bool.false_eq_true, if_true, if_false, kl_i, kl_a, kl_s, kl_u, kl_l, okS_nil, okS_cons, cat_i, cat_a, cat_s, cat_l, Nat.reduceAdd, Nat.reduceLeDiff, Nat.reduceSub, Nat.sub_zero, Nat.sub_self, Nat.zero_add, Nat.le_refl, Nat.zero_le, List.length_cons, List.length_nil, true_and, and_true, true_or, or_true, eq_self, forall_const, true_implies, not_true_eq_false, not_false_eq_true, false_implies, implies_true, false_and, and_false, false_or, or_false, uL_u]
        refine ih (v + 1) _ _ _ (by omega) (by omega) hok.2 ?_ ?_ h1 h0
        · rfl
        · unfold vA
          rw [upd_n _ _ (by omega), upd_n _ _ (by omega), upd_n _ _ (by omega), upd_n _ _ (by omega), upd_n _ _ (by omega)]
          exact hr1
      · rw [if_neg z] at h0
        simp only [xX6_reads_98, xX6_reads_101, xX6_reads_104, xX6_reads_105, xX6_reads_108, xX6_reads_111, xX6_reads_112, xX6_reads_113, xX6_reads_114, xX6_reads_117, xX6_reads_120, xX6_reads_121, Bool.false_eq_true, if_true, if_false, kl_i, kl_a, kl_s, kl_u, kl_l, okS_nil, okS_cons, cat_i, cat_a, cat_s, cat_l, Nat.reduceAdd, Nat.reduceLeDiff, Nat.reduceSub, Nat.sub_zero, Nat.sub_self, Nat.zero_add, Nat.le_refl, Nat.zero_le, List.length_cons, List.length_nil, true_and, and_true, true_or, or_true, eq_self, forall_const, true_implies, not_true_eq_false, not_false_eq_true, false_implies, implies_true, false_and, and_false, false_or, or_false, uL_u, i0n]
        exact h0 z _ _ _ _
def zr (g : Nat → Int32) (v : Nat) : Nat → Int32 := fun k => if k < v then 0 else g k
theorem l_mz {K : Cx} {d : Nat} {σ : Sg} {m : Mm} {l : Ml} {g : Nat → Int32} {Q : Rt} (hm : wfM σ) : ∀ (k v : Nat), v + k = 40 → (∀ e1, WX (tX6_reads K (d + 5)) Q (21, [.ref 199, e1], [], (0, 0), σ, setR m 209 (zr g 40), l)) → WX (tX6_reads K (d + 5)) Q (2, [.ref 199, .int (nI v)], [], (0, 0), σ, setR m 209 (zr g v), l) := by
  obtain ⟨M0, R0, R1, R2, R4, R8, R10, R11, R12, R14, R20, R21, R22, A200, L200, A201, L201, A202, L202, A203, L203, A204, L204, A205, L205, A206, L206, A207, L207, A208, L208, A209, L209, A210, L210, A211, L211⟩ := hm
  intro k
  induction k with
  | zero =>
    intro v hv hQ
    have c1 : (nI v < 40) = False := (ltN (a := v) (b := 40) (by omega) (by omega)).trans (eq_false (by omega))
    have e : v = 40 := by omega
    rw [xX6_reads_2]
    simp only [xX6_reads_3, xX6_reads_5, Bool.false_eq_true, if_true, if_false, kl_i, kl_a, kl_s, kl_u, kl_l, okS_nil, okS_cons, cat_i, cat_a, cat_s, cat_l, Nat.reduceAdd, Nat.reduceLeDiff, Nat.reduceSub, Nat.sub_zero, Nat.sub_self, Nat.zero_add, Nat.le_refl, Nat.zero_le, List.length_cons, List.length_nil, true_and, and_true, true_or, or_true, eq_self, forall_const, true_implies, not_true_eq_false, not_false_eq_true, false_implies, implies_true, false_and, and_false, false_or, or_false, c1]
    rw [e]
    exact hQ _
  | succ k ih =>
    intro v hv hQ
    have c1 : (nI v < 40) = True := (ltN (a := v) (b := 40) (by omega) (by omega)).trans (eq_true (by omega))
    have hcv := clN (v := v) (by omega)
    have hiv := inN (v := v) (n := 40) (by omega) (by omega)
    rw [xX6_reads_2]
    simp only [xX6_reads_3, xX6_reads_5, xX6_reads_8, xX6_reads_9, xX6_reads_12, xX6_reads_13, xX6_reads_14, xX6_reads_15, xX6_reads_18, Bool.false_eq_true, if_true, if_false, kl_i, kl_a, kl_s, kl_u, kl_l, okS_nil, okS_cons, cat_i, cat_a, cat_s, cat_l, Nat.reduceAdd, Nat.reduceLeDiff, Nat.reduceSub, Nat.sub_zero, Nat.sub_self, Nat.zero_add, Nat.le_refl, Nat.zero_le, List.length_cons, List.length_nil, true_and, and_true, true_or, or_true, eq_self, forall_const, true_implies, not_true_eq_false, not_false_eq_true, false_implies, implies_true, false_and, and_false, false_or, or_false, c1, M0, R20, A209, L209, hcv, hiv, upM_setR, setR_setR, s209, nI1]
    have e : upd (zr g v) v 0 = zr g (v + 1) := by
      funext j
      unfold upd zr
      by_cases h : j = v
      · rw [if_pos h, if_pos (by omega)]
      · rw [if_neg h]
        by_cases h2 : j < v
        · rw [if_pos h2, if_pos (by omega)]
        · rw [if_neg h2, if_neg (by omega)]
    rw [e]
    exact ih (v + 1) (by omega) hQ
def rdM (B : Nat → Nat) (T P : Nat) (g : Nat → Int32) : S3 × (Nat → Int32) :=
  if (r4 B T P).1 = 0 then rdA B T (r3 B T P).1 8 0 (r4 B T P).2.1 (r4 B T P).2.2 (upd (upd (zr g 40) 0 (nI (r2 B T P).1)) 1 (nI (r3 B T P).1)) else (r4 B T P, g)
theorem t_reads {K : Cx} {d T P : Nat} {σ : Sg} {m : Mm} {l : Ml} {B : Nat → Nat} {f : Nat → Int32} {fl a b t : Int32} {Q : Rt} (hm : wfM σ) (hb : tpM m B T) (hT : f 19 = nI T)
    (h1 : (rdM B T P (m 209)).1.1 = 0 → ∀ a' b t w, Q 1 σ (setR (setR m 209 (rdM B T P (m 209)).2) 199 (mp f fl a' b t)) (upL l 199 18 w))
    (h0 : (rdM B T P (m 209)).1.1 ≠ 0 → ∀ r' a' t w, Q 0 σ (setR (setR m 209 r') 199 (mp f (nI (rdM B T P (m 209)).1.1) a' (nI (rdM B T P (m 209)).1.2.1) t)) (upL l 199 18 w)) : CT K (d + 6) YX6_reads [.ref 199] σ (setR m 199 (mp f fl a b t)) l Q := by
  have hm0 := hm
  refine kX6_reads ?_
  have e0 : setR m 199 (mp f fl a b t) = setR (setR m 199 (mp f fl a b t)) 209 (zr (m 209) 0) := by
    have : zr (m 209) 0 = m 209 := by funext k; exact if_neg (by omega)
    rw [this, setR_comm _ _ _ (by decide), setR_id]
  simp only [xX6_reads_0, xX6_reads_1, Bool.false_eq_true, if_true, if_false, kl_i, kl_a, kl_s, kl_u, kl_l, okS_nil, okS_cons, cat_i, cat_a, cat_s, cat_l, Nat.reduceAdd, Nat.reduceLeDiff, Nat.reduceSub, Nat.sub_zero, Nat.sub_self, Nat.zero_add, Nat.le_refl, Nat.zero_le, List.length_cons, List.length_nil, true_and, and_true, true_or, or_true, eq_self, forall_const, true_implies, not_true_eq_false, not_false_eq_true, false_implies, implies_true, false_and, and_false, false_or, or_false]
  rw [e0]
  refine l_mz hm 40 0 (by omega) (fun e1 => ?_)
  rw [setR_comm _ _ _ (by decide : (199 : Nat) ≠ 209)]
  obtain ⟨M0, R0, R1, R2, R4, R8, R10, R11, R12, R14, R20, R21, R22, A200, L200, A201, L201, A202, L202, A203, L203, A204, L204, A205, L205, A206, L206, A207, L207, A208, L208, A209, L209, A210, L210, A211, L211⟩ := hm
  simp only [xX6_reads_0, xX6_reads_1, xX6_reads_3, xX6_reads_5, xX6_reads_8, xX6_reads_9, xX6_reads_12, xX6_reads_13, xX6_reads_14, xX6_reads_15, xX6_reads_18, xX6_reads_21, xX6_reads_22, xX6_reads_23, xX6_reads_26, xX6_reads_27, xX6_reads_30, xX6_reads_31, xX6_reads_32, xX6_reads_35, xX6_reads_36, xX6_reads_39, xX6_reads_40, xX6_reads_43, xX6_reads_46, xX6_reads_47, xX6_reads_50, xX6_reads_51, xX6_reads_54, xX6_reads_55, xX6_reads_58, xX6_reads_61, xX6_reads_62, xX6_reads_63, xX6_reads_64, xX6_reads_66, xX6_reads_69, xX6_reads_72, xX6_reads_73, xX6_reads_74, xX6_reads_75, xX6_reads_78, xX6_reads_81, xX6_reads_84, xX6_reads_85, xX6_reads_88, xX6_reads_91, xX6_reads_92, xX6_reads_93, xX6_reads_94, xX6_reads_98, xX6_reads_101, xX6_reads_104, xX6_reads_105, xX6_reads_108, xX6_reads_111, xX6_reads_112, xX6_reads_113, xX6_reads_114, xX6_reads_117, xX6_reads_120, xX6_reads_121, Bool.false_eq_true, if_true, if_false, kl_i, kl_a, kl_s, kl_u, kl_l, okS_nil, okS_cons, cat_i, cat_a, cat_s, cat_l, Nat.reduceAdd, Nat.reduceLeDiff, Nat.reduceSub, Nat.sub_zero, Nat.sub_self, Nat.zero_add, Nat.le_refl, Nat.zero_le, List.length_cons, List.length_nil, true_and, and_true, true_or, or_true, eq_self, forall_const, true_implies, not_true_eq_false, not_false_eq_true, false_implies, implies_true, false_and, and_false, false_or, or_false, s199, s199_203, s199_209, s209, um199, u199, setR_setR, mp_6, mp_15, mp_16, mp_17, mp_19, um_6, um_15, um_16, um_17, uL_r, uL_u, M0, R20, A209, L209]
  refine t_next (a := 0) hm0 (tpM_209 hb) hT (Nat.zero_le _) ?_
  have hlx := lx_b (B := B) (Nat.zero_le T)
  have c1 : (nI (lxT B T 0) = 1) = (lxT B T 0 = 1) := nT B T 0 (k := 1) (by omega)
  simp only [xX6_reads_0, xX6_reads_1, xX6_reads_3, xX6_reads_5, xX6_reads_8, xX6_reads_9, xX6_reads_12, xX6_reads_13, xX6_reads_14, xX6_reads_15, xX6_reads_18, xX6_reads_21, xX6_reads_22, xX6_reads_23, xX6_reads_26, xX6_reads_27, xX6_reads_30, xX6_reads_31, xX6_reads_32, xX6_reads_35, xX6_reads_36, xX6_reads_39, xX6_reads_40, xX6_reads_43, xX6_reads_46, xX6_reads_47, xX6_reads_50, xX6_reads_51, xX6_reads_54, xX6_reads_55, xX6_reads_58, xX6_reads_61, xX6_reads_62, xX6_reads_63, xX6_reads_64, xX6_reads_66, xX6_reads_69, xX6_reads_72, xX6_reads_73, xX6_reads_74, xX6_reads_75, xX6_reads_78, xX6_reads_81, xX6_reads_84, xX6_reads_85, xX6_reads_88, xX6_reads_91, xX6_reads_92, xX6_reads_93, xX6_reads_94, xX6_reads_98, xX6_reads_101, xX6_reads_104, xX6_reads_105, xX6_reads_108, xX6_reads_111, xX6_reads_112, xX6_reads_113, xX6_reads_114, xX6_reads_117, xX6_reads_120, xX6_reads_121, Bool.false_eq_true, if_true, if_false, kl_i, kl_a, kl_s, kl_u, kl_l, okS_nil, okS_cons, cat_i, cat_a, cat_s, cat_l, Nat.reduceAdd, Nat.reduceLeDiff, Nat.reduceSub, Nat.sub_zero, Nat.sub_self, Nat.zero_add, Nat.le_refl, Nat.zero_le, List.length_cons, List.length_nil, true_and, and_true, true_or, or_true, eq_self, forall_const, true_implies, not_true_eq_false, not_false_eq_true, false_implies, implies_true, false_and, and_false, false_or, or_false, s199, s199_203, s199_209, s209, um199, u199, setR_setR, mp_6, mp_15, mp_16, mp_17, mp_19, um_6, um_15, um_16, um_17, uL_r, uL_u, M0, R20, A209, L209, c1, lg_e]
  cases hl : ltk B T 0 0
  · have e1 : r1 B T P = bad B T 1 0 := by unfold r1 stW; rw [if_pos rfl, hl]; rfl
    have n1 : (bad B T 1 0).1 ≠ 0 := by show (1 : Nat) ≠ 0; decide
    have e4 : r4 B T P = bad B T 1 0 := by
      unfold r4 r3 r2
      rw [e1, stN_f n1, stN_f n1, stS_f n1]
    unfold rdM at h0
    rw [e4, if_neg n1] at h0
    have g := h0 n1
    refine ⟨fun g1 => ⟨fun g2 => ?_, fun _ => ?_⟩, fun _ => ?_⟩
    · have := (hash_iff (i := 0) (by omega) g1).mp g2
      rw [hl] at this
      cases this
    · refine t_mustBe0 M0 ?_
      simp only [xX6_reads_0, xX6_reads_1, xX6_reads_3, xX6_reads_5, xX6_reads_8, xX6_reads_9, xX6_reads_12, xX6_reads_13, xX6_reads_14, xX6_reads_15, xX6_reads_18, xX6_reads_21, xX6_reads_22, xX6_reads_23, xX6_reads_26, xX6_reads_27, xX6_reads_30, xX6_reads_31, xX6_reads_32, xX6_reads_35, xX6_reads_36, xX6_reads_39, xX6_reads_40, xX6_reads_43, xX6_reads_46, xX6_reads_47, xX6_reads_50, xX6_reads_51, xX6_reads_54, xX6_reads_55, xX6_reads_58, xX6_reads_61, xX6_reads_62, xX6_reads_63, xX6_reads_64, xX6_reads_66, xX6_reads_69, xX6_reads_72, xX6_reads_73, xX6_reads_74, xX6_reads_75, xX6_reads_78, xX6_reads_81, xX6_reads_84, xX6_reads_85, xX6_reads_88, xX6_reads_91, xX6_reads_92, xX6_reads_93, xX6_reads_94, xX6_reads_98, xX6_reads_101, xX6_reads_104, xX6_reads_105, xX6_reads_108, xX6_reads_111, xX6_reads_112, xX6_reads_113, xX6_reads_114, xX6_reads_117, xX6_reads_120, xX6_reads_121, Bool.false_eq_true, if_true, if_false, kl_i, kl_a, kl_s, kl_u, kl_l, okS_nil, okS_cons, cat_i, cat_a, cat_s, cat_l, Nat.reduceAdd, Nat.reduceLeDiff, Nat.reduceSub, Nat.sub_zero, Nat.sub_self, Nat.zero_add, Nat.le_refl, Nat.zero_le, List.length_cons, List.length_nil, true_and, and_true, true_or, or_true, eq_self, forall_const, true_implies, not_true_eq_false, not_false_eq_true, false_implies, implies_true, false_and, and_false, false_or, or_false, i0n]
      exact g _ _ _ _
    · refine t_mustBe0 M0 ?_
      simp only [xX6_reads_0, xX6_reads_1, xX6_reads_3, xX6_reads_5, xX6_reads_8, xX6_reads_9, xX6_reads_12, xX6_reads_13, xX6_reads_14, xX6_reads_15, xX6_reads_18, xX6_reads_21, xX6_reads_22, xX6_reads_23, xX6_reads_26, xX6_reads_27, xX6_reads_30, xX6_reads_31, xX6_reads_32, xX6_reads_35, xX6_reads_36, xX6_reads_39, xX6_reads_40, xX6_reads_43, xX6_reads_46, xX6_reads_47, xX6_reads_50, xX6_reads_51, xX6_reads_54, xX6_reads_55, xX6_reads_58, xX6_reads_61, xX6_reads_62, xX6_reads_63, xX6_reads_64, xX6_reads_66, xX6_reads_69, xX6_reads_72, xX6_reads_73, xX6_reads_74, xX6_reads_75, xX6_reads_78, xX6_reads_81, xX6_reads_84, xX6_reads_85, xX6_reads_88, xX6_reads_91, xX6_reads_92, xX6_reads_93, xX6_reads_94, xX6_reads_98, xX6_reads_101, xX6_reads_104, xX6_reads_105, xX6_reads_108, xX6_reads_111, xX6_reads_112, xX6_reads_113, xX6_reads_114, xX6_reads_117, xX6_reads_120, xX6_reads_121, Bool.false_eq_true, if_true, if_false, kl_i, kl_a, kl_s, kl_u, kl_l, okS_nil, okS_cons, cat_i, cat_a, cat_s, cat_l, Nat.reduceAdd, Nat.reduceLeDiff, Nat.reduceSub, Nat.sub_zero, Nat.sub_self, Nat.zero_add, Nat.le_refl, Nat.zero_le, List.length_cons, List.length_nil, true_and, and_true, true_or, or_true, eq_self, forall_const, true_implies, not_true_eq_false, not_false_eq_true, false_implies, implies_true, false_and, and_false, false_or, or_false, i0n]
      exact g _ _ _ _
  · have g1 := ltk_1 hl
    have g2 : mV B T 0 = 12343 := (hash_iff (i := 0) (by omega) g1).mpr hl
    have e1 : r1 B T P = (0, P, lxE B T 0) := by unfold r1 stW; rw [if_pos rfl]; simp only [hl, if_true]
    have hE1 : lxE B T 0 ≤ T := hlx.2.2.2
    refine ⟨fun _ => ⟨fun _ => ?_, fun h => absurd g2 h⟩, fun h => absurd g1 h⟩
    refine t_mustBe1 M0 ?_
    simp only [xX6_reads_0, xX6_reads_1, xX6_reads_3, xX6_reads_5, xX6_reads_8, xX6_reads_9, xX6_reads_12, xX6_reads_13, xX6_reads_14, xX6_reads_15, xX6_reads_18, xX6_reads_21, xX6_reads_22, xX6_reads_23, xX6_reads_26, xX6_reads_27, xX6_reads_30, xX6_reads_31, xX6_reads_32, xX6_reads_35, xX6_reads_36, xX6_reads_39, xX6_reads_40, xX6_reads_43, xX6_reads_46, xX6_reads_47, xX6_reads_50, xX6_reads_51, xX6_reads_54, xX6_reads_55, xX6_reads_58, xX6_reads_61, xX6_reads_62, xX6_reads_63, xX6_reads_64, xX6_reads_66, xX6_reads_69, xX6_reads_72, xX6_reads_73, xX6_reads_74, xX6_reads_75, xX6_reads_78, xX6_reads_81, xX6_reads_84, xX6_reads_85, xX6_reads_88, xX6_reads_91, xX6_reads_92, xX6_reads_93, xX6_reads_94, xX6_reads_98, xX6_reads_101, xX6_reads_104, xX6_reads_105, xX6_reads_108, xX6_reads_111, xX6_reads_112, xX6_reads_113, xX6_reads_114, xX6_reads_117, xX6_reads_120, xX6_reads_121, Bool.false_eq_true, if_true, if_false, kl_i, kl_a, kl_s, kl_u, kl_l, okS_nil, okS_cons, cat_i, cat_a, cat_s, cat_l, Nat.reduceAdd, Nat.reduceLeDiff, Nat.reduceSub, Nat.sub_zero, Nat.sub_self, Nat.zero_add, Nat.le_refl, Nat.zero_le, List.length_cons, List.length_nil, true_and, and_true, true_or, or_true, eq_self, forall_const, true_implies, not_true_eq_false, not_false_eq_true, false_implies, implies_true, false_and, and_false, false_or, or_false, s199, s199_203, s199_209, s209, um199, u199, setR_setR, mp_6, mp_15, mp_16, mp_17, mp_19, um_6, um_15, um_16, um_17, uL_r, uL_u, M0, R20, A209, L209, i10]
    refine t_number (P := P) (pl := 0) (lo := 0) (hi := 99) hm0 (tpM_209 hb) hT hE1 (by omega) (by omega) (by omega) (fun z2 b t w => ?_) (fun z2 a' t w => ?_)
    rotate_left
    · have e2 : r2 B T P = stN B T 0 99 (0, P, lxE B T 0) := by unfold r2; rw [e1]
      have n2 : (r2 B T P).2.1 ≠ 0 := by rw [e2]; exact z2
      have e4 : r4 B T P = (r2 B T P).2 := by unfold r4 r3; rw [stN_f n2, stS_f n2]
      unfold rdM at h0
      rw [e4, if_neg n2] at h0
      simp only [xX6_reads_0, xX6_reads_1, xX6_reads_3, xX6_reads_5, xX6_reads_8, xX6_reads_9, xX6_reads_12, xX6_reads_13, xX6_reads_14, xX6_reads_15, xX6_reads_18, xX6_reads_21, xX6_reads_22, xX6_reads_23, xX6_reads_26, xX6_reads_27, xX6_reads_30, xX6_reads_31, xX6_reads_32, xX6_reads_35, xX6_reads_36, xX6_reads_39, xX6_reads_40, xX6_reads_43, xX6_reads_46, xX6_reads_47, xX6_reads_50, xX6_reads_51, xX6_reads_54, xX6_reads_55, xX6_reads_58, xX6_reads_61, xX6_reads_62, xX6_reads_63, xX6_reads_64, xX6_reads_66, xX6_reads_69, xX6_reads_72, xX6_reads_73, xX6_reads_74, xX6_reads_75, xX6_reads_78, xX6_reads_81, xX6_reads_84, xX6_reads_85, xX6_reads_88, xX6_reads_91, xX6_reads_92, xX6_reads_93, xX6_reads_94, xX6_reads_98, xX6_reads_101, xX6_reads_104, xX6_reads_105, xX6_reads_108, xX6_reads_111, xX6_reads_112, xX6_reads_113, xX6_reads_114, xX6_reads_117, xX6_reads_120, xX6_reads_121, Bool.false_eq_true, if_true, if_false, kl_i, kl_a, kl_s, kl_u, kl_l, okS_nil, okS_cons, cat_i, cat_a, cat_s, cat_l, Nat.reduceAdd, Nat.reduceLeDiff, Nat.reduceSub, Nat.sub_zero, Nat.sub_self, Nat.zero_add, Nat.le_refl, Nat.zero_le, List.length_cons, List.length_nil, true_and, and_true, true_or, or_true, eq_self, forall_const, true_implies, not_true_eq_false, not_false_eq_true, false_implies, implies_true, false_and, and_false, false_or, or_false, uL_u, i0n]
      rw [← e2]
      exact h0 n2 _ _ _ _
    have e2 : stN B T 0 99 (0, P, lxE B T 0) = r2 B T P := by unfold r2; rw [e1]
    rw [e2] at z2 ⊢
    have s2 : (r2 B T P).2 = (0, P, (r2 B T P).2.2.2) := by
      have := stN_z (lo := 0) (hi := 99) (s := (0, P, lxE B T 0)) rfl (by rw [e2]; exact z2)
      rw [e2] at this
      rw [this]
    have hE2 : (r2 B T P).2.2.2 ≤ T := (stN_ok (B := B) (lo := 0) (hi := 99) (s := r1 B T P) (by rw [e1]; exact ⟨by show 0 < 4; omega, hE1⟩)).2
    simp only [xX6_reads_0, xX6_reads_1, xX6_reads_3, xX6_reads_5, xX6_reads_8, xX6_reads_9, xX6_reads_12, xX6_reads_13, xX6_reads_14, xX6_reads_15, xX6_reads_18, xX6_reads_21, xX6_reads_22, xX6_reads_23, xX6_reads_26, xX6_reads_27, xX6_reads_30, xX6_reads_31, xX6_reads_32, xX6_reads_35, xX6_reads_36, xX6_reads_39, xX6_reads_40, xX6_reads_43, xX6_reads_46, xX6_reads_47, xX6_reads_50, xX6_reads_51, xX6_reads_54, xX6_reads_55, xX6_reads_58, xX6_reads_61, xX6_reads_62, xX6_reads_63, xX6_reads_64, xX6_reads_66, xX6_reads_69, xX6_reads_72, xX6_reads_73, xX6_reads_74, xX6_reads_75, xX6_reads_78, xX6_reads_81, xX6_reads_84, xX6_reads_85, xX6_reads_88, xX6_reads_91, xX6_reads_92, xX6_reads_93, xX6_reads_94, xX6_reads_98, xX6_reads_101, xX6_reads_104, xX6_reads_105, xX6_reads_108, xX6_reads_111, xX6_reads_112, xX6_reads_113, xX6_reads_114, xX6_reads_117, xX6_reads_120, xX6_reads_121, Bool.false_eq_true, if_true, if_false, kl_i, kl_a, kl_s, kl_u, kl_l, okS_nil, okS_cons, cat_i, cat_a, cat_s, cat_l, Nat.reduceAdd, Nat.reduceLeDiff, Nat.reduceSub, Nat.sub_zero, Nat.sub_self, Nat.zero_add, Nat.le_refl, Nat.zero_le, List.length_cons, List.length_nil, true_and, and_true, true_or, or_true, eq_self, forall_const, true_implies, not_true_eq_false, not_false_eq_true, false_implies, implies_true, false_and, and_false, false_or, or_false, s199, s199_203, s199_209, s209, um199, u199, setR_setR, mp_6, mp_15, mp_16, mp_17, mp_19, um_6, um_15, um_16, um_17, uL_r, uL_u, M0, R20, A209, L209, i10]
    refine t_number (P := P) (pl := 1) (lo := 1) (hi := 999) hm0 (tpM_209 hb) hT hE2 (by omega) (by omega) (by omega) (fun z3 b t w => ?_) (fun z3 a' t w => ?_)
    rotate_left
    · have e3 : r3 B T P = stN B T 1 999 (0, P, (r2 B T P).2.2.2) := by unfold r3; rw [s2]
      have n3 : (r3 B T P).2.1 ≠ 0 := by rw [e3]; exact z3
      have e4 : r4 B T P = (r3 B T P).2 := by unfold r4; rw [stS_f n3]
      unfold rdM at h0
      rw [e4, if_neg n3] at h0
      simp only [xX6_reads_0, xX6_reads_1, xX6_reads_3, xX6_reads_5, xX6_reads_8, xX6_reads_9, xX6_reads_12, xX6_reads_13, xX6_reads_14, xX6_reads_15, xX6_reads_18, xX6_reads_21, xX6_reads_22, xX6_reads_23, xX6_reads_26, xX6_reads_27, xX6_reads_30, xX6_reads_31, xX6_reads_32, xX6_reads_35, xX6_reads_36, xX6_reads_39, xX6_reads_40, xX6_reads_43, xX6_reads_46, xX6_reads_47, xX6_reads_50, xX6_reads_51, xX6_reads_54, xX6_reads_55, xX6_reads_58, xX6_reads_61, xX6_reads_62, xX6_reads_63, xX6_reads_64, xX6_reads_66, xX6_reads_69, xX6_reads_72, xX6_reads_73, xX6_reads_74, xX6_reads_75, xX6_reads_78, xX6_reads_81, xX6_reads_84, xX6_reads_85, xX6_reads_88, xX6_reads_91, xX6_reads_92, xX6_reads_93, xX6_reads_94, xX6_reads_98, xX6_reads_101, xX6_reads_104, xX6_reads_105, xX6_reads_108, xX6_reads_111, xX6_reads_112, xX6_reads_113, xX6_reads_114, xX6_reads_117, xX6_reads_120, xX6_reads_121, Bool.false_eq_true, if_true, if_false, kl_i, kl_a, kl_s, kl_u, kl_l, okS_nil, okS_cons, cat_i, cat_a, cat_s, cat_l, Nat.reduceAdd, Nat.reduceLeDiff, Nat.reduceSub, Nat.sub_zero, Nat.sub_self, Nat.zero_add, Nat.le_refl, Nat.zero_le, List.length_cons, List.length_nil, true_and, and_true, true_or, or_true, eq_self, forall_const, true_implies, not_true_eq_false, not_false_eq_true, false_implies, implies_true, false_and, and_false, false_or, or_false, uL_u, i0n]
      rw [← e3]
      exact h0 n3 _ _ _ _
    have e3 : stN B T 1 999 (0, P, (r2 B T P).2.2.2) = r3 B T P := by unfold r3; rw [← s2]
    rw [e3] at z3 ⊢
    have s3 : (r3 B T P).2 = (0, P, (r3 B T P).2.2.2) := by
      have := stN_z (lo := 1) (hi := 999) (s := (0, P, (r2 B T P).2.2.2)) rfl (by rw [e3]; exact z3)
      rw [e3] at this
      rw [this]
    have hE3 : (r3 B T P).2.2.2 ≤ T := (stN_ok (B := B) (lo := 1) (hi := 999) (s := (r2 B T P).2) (by rw [s2]; exact ⟨by show 0 < 4; omega, hE2⟩)).2
    simp only [xX6_reads_0, xX6_reads_1, xX6_reads_3, xX6_reads_5, xX6_reads_8, xX6_reads_9, xX6_reads_12, xX6_reads_13, xX6_reads_14, xX6_reads_15, xX6_reads_18, xX6_reads_21, xX6_reads_22, xX6_reads_23, xX6_reads_26, xX6_reads_27, xX6_reads_30, xX6_reads_31, xX6_reads_32, xX6_reads_35, xX6_reads_36, xX6_reads_39, xX6_reads_40, xX6_reads_43, xX6_reads_46, xX6_reads_47, xX6_reads_50, xX6_reads_51, xX6_reads_54, xX6_reads_55, xX6_reads_58, xX6_reads_61, xX6_reads_62, xX6_reads_63, xX6_reads_64, xX6_reads_66, xX6_reads_69, xX6_reads_72, xX6_reads_73, xX6_reads_74, xX6_reads_75, xX6_reads_78, xX6_reads_81, xX6_reads_84, xX6_reads_85, xX6_reads_88, xX6_reads_91, xX6_reads_92, xX6_reads_93, xX6_reads_94, xX6_reads_98, xX6_reads_101, xX6_reads_104, xX6_reads_105, xX6_reads_108, xX6_reads_111, xX6_reads_112, xX6_reads_113, xX6_reads_114, xX6_reads_117, xX6_reads_120, xX6_reads_121, Bool.false_eq_true, if_true, if_false, kl_i, kl_a, kl_s, kl_u, kl_l, okS_nil, okS_cons, cat_i, cat_a, cat_s, cat_l, Nat.reduceAdd, Nat.reduceLeDiff, Nat.reduceSub, Nat.sub_zero, Nat.sub_self, Nat.zero_add, Nat.le_refl, Nat.zero_le, List.length_cons, List.length_nil, true_and, and_true, true_or, or_true, eq_self, forall_const, true_implies, not_true_eq_false, not_false_eq_true, false_implies, implies_true, false_and, and_false, false_or, or_false, s199, s199_203, s199_209, s209, um199, u199, setR_setR, mp_6, mp_15, mp_16, mp_17, mp_19, um_6, um_15, um_16, um_17, uL_r, uL_u, M0, R20, A209, L209, i10]
    have s4 : r4 B T P = stS B T (0, P, (r3 B T P).2.2.2) := by unfold r4; rw [← s3]
    refine t_ends (P := P) hm0 (tpM_209 hb) hT hE3 (fun z4 => ?_) (fun z4 => ?_)
    · rw [← s4] at z4
      unfold rdM at h0 h1
      rw [if_pos z4] at h0 h1
      have e6 : (r4 B T P).2.2 = lxE B T (r3 B T P).2.2.2 := by
        rw [s4]; unfold stS; rw [if_pos rfl]; split <;> rfl
      have hE4 : (r4 B T P).2.2 ≤ T := by rw [e6]; exact (lx_b hE3).2.2.2
      unfold MS
      simp only [xX6_reads_0, xX6_reads_1, xX6_reads_3, xX6_reads_5, xX6_reads_8, xX6_reads_9, xX6_reads_12, xX6_reads_13, xX6_reads_14, xX6_reads_15, xX6_reads_18, xX6_reads_21, xX6_reads_22, xX6_reads_23, xX6_reads_26, xX6_reads_27, xX6_reads_30, xX6_reads_31, xX6_reads_32, xX6_reads_35, xX6_reads_36, xX6_reads_39, xX6_reads_40, xX6_reads_43, xX6_reads_46, xX6_reads_47, xX6_reads_50, xX6_reads_51, xX6_reads_54, xX6_reads_55, xX6_reads_58, xX6_reads_61, xX6_reads_62, xX6_reads_63, xX6_reads_64, xX6_reads_66, xX6_reads_69, xX6_reads_72, xX6_reads_73, xX6_reads_74, xX6_reads_75, xX6_reads_78, xX6_reads_81, xX6_reads_84, xX6_reads_85, xX6_reads_88, xX6_reads_91, xX6_reads_92, xX6_reads_93, xX6_reads_94, xX6_reads_98, xX6_reads_101, xX6_reads_104, xX6_reads_105, xX6_reads_108, xX6_reads_111, xX6_reads_112, xX6_reads_113, xX6_reads_114, xX6_reads_117, xX6_reads_120, xX6_reads_121, Bool.false_eq_true, if_true, if_false, kl_i, kl_a, kl_s, kl_u, kl_l, okS_nil, okS_cons, cat_i, cat_a, cat_s, cat_l, Nat.reduceAdd, Nat.reduceLeDiff, Nat.reduceSub, Nat.sub_zero, Nat.sub_self, Nat.zero_add, Nat.le_refl, Nat.zero_le, List.length_cons, List.length_nil, true_and, and_true, true_or, or_true, eq_self, forall_const, true_implies, not_true_eq_false, not_false_eq_true, false_implies, implies_true, false_and, and_false, false_or, or_false, s199, s199_203, s199_209, s209, um199, u199, setR_setR, mp_6, mp_15, mp_16, mp_17, mp_19, um_6, um_15, um_16, um_17, uL_r, uL_u, M0, R20, A209, L209, i10]
      rw [← e6]
      refine t_next hm0 (tpM_209 hb) hT hE4 ?_
      simp only [xX6_reads_0, xX6_reads_1, xX6_reads_3, xX6_reads_5, xX6_reads_8, xX6_reads_9, xX6_reads_12, xX6_reads_13, xX6_reads_14, xX6_reads_15, xX6_reads_18, xX6_reads_21, xX6_reads_22, xX6_reads_23, xX6_reads_26, xX6_reads_27, xX6_reads_30, xX6_reads_31, xX6_reads_32, xX6_reads_35, xX6_reads_36, xX6_reads_39, xX6_reads_40, xX6_reads_43, xX6_reads_46, xX6_reads_47, xX6_reads_50, xX6_reads_51, xX6_reads_54, xX6_reads_55, xX6_reads_58, xX6_reads_61, xX6_reads_62, xX6_reads_63, xX6_reads_64, xX6_reads_66, xX6_reads_69, xX6_reads_72, xX6_reads_73, xX6_reads_74, xX6_reads_75, xX6_reads_78, xX6_reads_81, xX6_reads_84, xX6_reads_85, xX6_reads_88, xX6_reads_91, xX6_reads_92, xX6_reads_93, xX6_reads_94, xX6_reads_98, xX6_reads_101, xX6_reads_104, xX6_reads_105, xX6_reads_108, xX6_reads_111, xX6_reads_112, xX6_reads_113, xX6_reads_114, xX6_reads_117, xX6_reads_120, xX6_reads_121, Bool.false_eq_true, if_true, if_false, kl_i, kl_a, kl_s, kl_u, kl_l, okS_nil, okS_cons, cat_i, cat_a, cat_s, cat_l, Nat.reduceAdd, Nat.reduceLeDiff, Nat.reduceSub, Nat.sub_zero, Nat.sub_self, Nat.zero_add, Nat.le_refl, Nat.zero_le, List.length_cons, List.length_nil, true_and, and_true, true_or, or_true, eq_self, forall_const, true_implies, not_true_eq_false, not_false_eq_true, false_implies, implies_true, false_and, and_false, false_or, or_false, s199, s199_203, s199_209, s209, um199, u199, setR_setR, mp_6, mp_15, mp_16, mp_17, mp_19, um_6, um_15, um_16, um_17, uL_r, uL_u, M0, R20, A209, L209, i10]
      refine l_mr (room := (r3 B T P).1) hm0 hb hT stN_b 8 0 (r4 B T P).2.1 _ _ (by omega) (by omega) hE4 ?_ ?_ h1 h0
      · rfl
      · rfl
    · rw [← s4] at z4
      unfold rdM at h0
      rw [if_neg z4] at h0
      have e6 : (r4 B T P).2.1 = lxS B T (r3 B T P).2.2.2 := by
        rw [s4] at z4 ⊢
        unfold stS at z4 ⊢; rw [if_pos rfl] at z4 ⊢; split
        · next h => rw [if_pos h] at z4; exact absurd rfl z4
        · rfl
      have := h0 z4
      simp only [e6] at this
      unfold MS
      simp only [xX6_reads_0, xX6_reads_1, xX6_reads_3, xX6_reads_5, xX6_reads_8, xX6_reads_9, xX6_reads_12, xX6_reads_13, xX6_reads_14, xX6_reads_15, xX6_reads_18, xX6_reads_21, xX6_reads_22, xX6_reads_23, xX6_reads_26, xX6_reads_27, xX6_reads_30, xX6_reads_31, xX6_reads_32, xX6_reads_35, xX6_reads_36, xX6_reads_39, xX6_reads_40, xX6_reads_43, xX6_reads_46, xX6_reads_47, xX6_reads_50, xX6_reads_51, xX6_reads_54, xX6_reads_55, xX6_reads_58, xX6_reads_61, xX6_reads_62, xX6_reads_63, xX6_reads_64, xX6_reads_66, xX6_reads_69, xX6_reads_72, xX6_reads_73, xX6_reads_74, xX6_reads_75, xX6_reads_78, xX6_reads_81, xX6_reads_84, xX6_reads_85, xX6_reads_88, xX6_reads_91, xX6_reads_92, xX6_reads_93, xX6_reads_94, xX6_reads_98, xX6_reads_101, xX6_reads_104, xX6_reads_105, xX6_reads_108, xX6_reads_111, xX6_reads_112, xX6_reads_113, xX6_reads_114, xX6_reads_117, xX6_reads_120, xX6_reads_121, Bool.false_eq_true, if_true, if_false, kl_i, kl_a, kl_s, kl_u, kl_l, okS_nil, okS_cons, cat_i, cat_a, cat_s, cat_l, Nat.reduceAdd, Nat.reduceLeDiff, Nat.reduceSub, Nat.sub_zero, Nat.sub_self, Nat.zero_add, Nat.le_refl, Nat.zero_le, List.length_cons, List.length_nil, true_and, and_true, true_or, or_true, eq_self, forall_const, true_implies, not_true_eq_false, not_false_eq_true, false_implies, implies_true, false_and, and_false, false_or, or_false, uL_u, i0n]
      rw [← s4]
      exact this _ _ _ _
