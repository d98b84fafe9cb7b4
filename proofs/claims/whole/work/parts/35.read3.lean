/-! reading, the class's side: the whole text -/
theorem sp_31 (m q : Mm) (F : Nat → Int32) : setR (putP m 39 q) 31 F = putP (setR m 31 F) 39 q := by
  funext b
  simp only [setR, putP]
  by_cases h : b = 31
  · rw [if_pos h, if_neg (by omega), if_pos h]
  · rw [if_neg h]
    by_cases h2 : 39 ≤ b ∧ b < 39 + 6
    · rw [if_pos h2, if_pos h2]
    · rw [if_neg h2, if_neg h2, if_neg h]
theorem stN_b {B : Nat → Nat} {T lo hi : Nat} {s : S3} : (stN B T lo hi s).1 < 1000 := by
  unfold stN
  split
  · split
    · next h =>
      split
      · show 0 < 1000; omega
      · exact (lxV_b h).2.2
    · show 0 < 1000; omega
  · show 0 < 1000; omega
def r1 (B : Nat → Nat) (T P : Nat) : S3 := stW B T 0 (0, P, 0)
def r2 (B : Nat → Nat) (T P : Nat) : Nat × S3 := stN B T 0 99 (r1 B T P)
def r3 (B : Nat → Nat) (T P : Nat) : Nat × S3 := stN B T 1 999 (r2 B T P).2
def r4 (B : Nat → Nat) (T P : Nat) : S3 := stS B T (r3 B T P).2
def rdC (B : Nat → Nat) (T P : Nat) (q : Mm) : S3 × Mm := rdL B T (r3 B T P).1 8 0 (r4 B T P) (beginQ q (nI (r2 B T P).1) (nI (r3 B T P).1))
theorem r4_ok {B : Nat → Nat} {T P : Nat} : okS3 T (r4 B T P) := stS_ok (stN_ok (stN_ok (stW_ok ⟨by show 0 < 4; omega, Nat.zero_le _⟩)))
theorem t_read {K : Cx} {d T P : Nat} {σ : Sg} {m : Mm} {l : Ml} {B : Nat → Nat} {Q : Rt} (hw : wfT σ) (hP : isP σ 39) (hb : tpH m B T) (hT : m 31 1 = nI T) (hp : m 31 3 = nI P)
    (hQ : ∀ x y z, Q (if (rdC B T P (getP m 39)).1.1 = 0 then 1 else 0) σ (TS (putP m 39 (rdC B T P (getP m 39)).2) (m 31) (rdC B T P (getP m 39)).1 x y z) l) : CT K (d + 8) YX3_read [.ref 31, .ref 39] σ m l Q := by
  have e0 : m = setR (putP m 39 (getP m 39)) 31 (tp (m 31) (m 31 2) (m 31 3) (m 31 4) (m 31 5) (m 31 6) (m 31 7)) := by
    rw [tp_id, putP_get, setR_id]
  have hT2 : m 31 1 = nI T := hT
  rw [hp] at e0
  have main : ∀ (f : Nat → Int32) (q : Mm) (a2 a4 a5 a6 a7 : Int32), f 1 = nI T → (∀ x y z, Q (if (rdC B T P q).1.1 = 0 then 1 else 0) σ (TS (putP m 39 (rdC B T P q).2) f (rdC B T P q).1 x y z) l) → CT K (d + 8) YX3_read [.ref 31, .ref 39] σ (setR (putP m 39 q) 31 (tp f a2 (nI P) a4 a5 a6 a7)) l Q := by
    intro f q a2 a4 a5 a6 a7 hT hQ
    refine kX3_read ?_
    simp only [xX3_read_0, xX3_read_1, xX3_read_2, xX3_read_5, xX3_read_6, xX3_read_7, xX3_read_10, xX3_read_11, xX3_read_13, xX3_read_16, xX3_read_17, xX3_read_18, xX3_read_20, xX3_read_23, xX3_read_24, xX3_read_25, xX3_read_26, xX3_read_29, xX3_read_32, xX3_read_33, xX3_read_34, xX3_read_37, xX3_read_38, xX3_read_39, xX3_read_40, xX3_read_43, xX3_read_44, xX3_read_48, xX3_read_50, xX3_read_53, xX3_read_54, xX3_read_57, xX3_read_60, xX3_read_61, xX3_read_64, xX3_read_65, xX3_read_68, xX3_read_69, xX3_read_72, xX3_read_73, xX3_read_74, xX3_read_75, xX3_read_77, xX3_read_80, xX3_read_83, xX3_read_84, xX3_read_85, xX3_read_88, xX3_read_91, xX3_read_93, xX3_read_95, xX3_read_98, xX3_read_99, xX3_read_100, xX3_read_103, xX3_read_106, xX3_read_107, xX3_read_108, xX3_read_110, xX3_read_113, xX3_read_116, xX3_read_119, xX3_read_120, Bool.false_eq_true, if_true, if_false, kl_i, kl_a, kl_s, kl_u, kl_l, okS_nil, okS_cons, cat_i, cat_a, cat_s, cat_l, Nat.reduceAdd, Nat.reduceLeDiff, Nat.reduceSub, Nat.sub_zero, Nat.sub_self, Nat.zero_add, Nat.le_refl, Nat.zero_le, List.length_cons, List.length_nil, true_and, and_true, true_or, or_true, eq_self, forall_const, true_implies, not_true_eq_false, not_false_eq_true, false_implies, implies_true, false_and, and_false, false_or, or_false, p39_0, p39_1, p39_2, p39_3, p39_4, p39_5, u39_0, u39_1, u39_2, u39_3, u39_4, u39_5, s31, s31, s31_32, upM_setR, setR_setR, tp_1, tp_2, tp_3, tp_4, tp_5, tp_6, tp_7, up_2, up_3, up_4, up_5, up_6, up_7, hw.1]
    have ok0 : okS3 T (0, P, 0) := ⟨by show 0 < 4; omega, Nat.zero_le _⟩
    refine t_readWord (s := (0, P, 0)) hw (tpH_39 hb) hT (by omega) ok0 (fun x y z => ?_)
    unfold TS
    simp only [xX3_read_0, xX3_read_1, xX3_read_2, xX3_read_5, xX3_read_6, xX3_read_7, xX3_read_10, xX3_read_11, xX3_read_13, xX3_read_16, xX3_read_17, xX3_read_18, xX3_read_20, xX3_read_23, xX3_read_24, xX3_read_25, xX3_read_26, xX3_read_29, xX3_read_32, xX3_read_33, xX3_read_34, xX3_read_37, xX3_read_38, xX3_read_39, xX3_read_40, xX3_read_43, xX3_read_44, xX3_read_48, xX3_read_50, xX3_read_53, xX3_read_54, xX3_read_57, xX3_read_60, xX3_read_61, xX3_read_64, xX3_read_65, xX3_read_68, xX3_read_69, xX3_read_72, xX3_read_73, xX3_read_74, xX3_read_75, xX3_read_77, xX3_read_80, xX3_read_83, xX3_read_84, xX3_read_85, xX3_read_88, xX3_read_91, xX3_read_93, xX3_read_95, xX3_read_98, xX3_read_99, xX3_read_100, xX3_read_103, xX3_read_106, xX3_read_107, xX3_read_108, xX3_read_110, xX3_read_113, xX3_read_116, xX3_read_119, xX3_read_120, Bool.false_eq_true, if_true, if_false, kl_i, kl_a, kl_s, kl_u, kl_l, okS_nil, okS_cons, cat_i, cat_a, cat_s, cat_l, Nat.reduceAdd, Nat.reduceLeDiff, Nat.reduceSub, Nat.sub_zero, Nat.sub_self, Nat.zero_add, Nat.le_refl, Nat.zero_le, List.length_cons, List.length_nil, true_and, and_true, true_or, or_true, eq_self, forall_const, true_implies, not_true_eq_false, not_false_eq_true, false_implies, implies_true, false_and, and_false, false_or, or_false, p39_0, p39_1, p39_2, p39_3, p39_4, p39_5, u39_0, u39_1, u39_2, u39_3, u39_4, u39_5, s31, s31, s31_32, upM_setR, setR_setR, tp_1, tp_2, tp_3, tp_4, tp_5, tp_6, tp_7, up_2, up_3, up_4, up_5, up_6, up_7, hw.1]
    have ok1 : okS3 T (r1 B T P) := stW_ok ok0
    refine t_readNumber (lo := 0) (hi := 99) hw (tpH_39 hb) hT (by omega) (by omega) ok1 (fun x y z => ?_)
    unfold TS
    simp only [xX3_read_0, xX3_read_1, xX3_read_2, xX3_read_5, xX3_read_6, xX3_read_7, xX3_read_10, xX3_read_11, xX3_read_13, xX3_read_16, xX3_read_17, xX3_read_18, xX3_read_20, xX3_read_23, xX3_read_24, xX3_read_25, xX3_read_26, xX3_read_29, xX3_read_32, xX3_read_33, xX3_read_34, xX3_read_37, xX3_read_38, xX3_read_39, xX3_read_40, xX3_read_43, xX3_read_44, xX3_read_48, xX3_read_50, xX3_read_53, xX3_read_54, xX3_read_57, xX3_read_60, xX3_read_61, xX3_read_64, xX3_read_65, xX3_read_68, xX3_read_69, xX3_read_72, xX3_read_73, xX3_read_74, xX3_read_75, xX3_read_77, xX3_read_80, xX3_read_83, xX3_read_84, xX3_read_85, xX3_read_88, xX3_read_91, xX3_read_93, xX3_read_95, xX3_read_98, xX3_read_99, xX3_read_100, xX3_read_103, xX3_read_106, xX3_read_107, xX3_read_108, xX3_read_110, xX3_read_113, xX3_read_116, xX3_read_119, xX3_read_120, Bool.false_eq_true, if_true, if_false, kl_i, kl_a, kl_s, kl_u, kl_l, okS_nil, okS_cons, cat_i, cat_a, cat_s, cat_l, Nat.reduceAdd, Nat.reduceLeDiff, Nat.reduceSub, Nat.sub_zero, Nat.sub_self, Nat.zero_add, Nat.le_refl, Nat.zero_le, List.length_cons, List.length_nil, true_and, and_true, true_or, or_true, eq_self, forall_const, true_implies, not_true_eq_false, not_false_eq_true, false_implies, implies_true, false_and, and_false, false_or, or_false, p39_0, p39_1, p39_2, p39_3, p39_4, p39_5, u39_0, u39_1, u39_2, u39_3, u39_4, u39_5, s31, s31, s31_32, upM_setR, setR_setR, tp_1, tp_2, tp_3, tp_4, tp_5, tp_6, tp_7, up_2, up_3, up_4, up_5, up_6, up_7, hw.1]
    have ok2 : okS3 T (r2 B T P).2 := stN_ok ok1
    refine t_readNumber (lo := 1) (hi := 999) hw (tpH_39 hb) hT (by omega) (by omega) ok2 (fun x y z => ?_)
    unfold TS
    simp only [xX3_read_0, xX3_read_1, xX3_read_2, xX3_read_5, xX3_read_6, xX3_read_7, xX3_read_10, xX3_read_11, xX3_read_13, xX3_read_16, xX3_read_17, xX3_read_18, xX3_read_20, xX3_read_23, xX3_read_24, xX3_read_25, xX3_read_26, xX3_read_29, xX3_read_32, xX3_read_33, xX3_read_34, xX3_read_37, xX3_read_38, xX3_read_39, xX3_read_40, xX3_read_43, xX3_read_44, xX3_read_48, xX3_read_50, xX3_read_53, xX3_read_54, xX3_read_57, xX3_read_60, xX3_read_61, xX3_read_64, xX3_read_65, xX3_read_68, xX3_read_69, xX3_read_72, xX3_read_73, xX3_read_74, xX3_read_75, xX3_read_77, xX3_read_80, xX3_read_83, xX3_read_84, xX3_read_85, xX3_read_88, xX3_read_91, xX3_read_93, xX3_read_95, xX3_read_98, xX3_read_99, xX3_read_100, xX3_read_103, xX3_read_106, xX3_read_107, xX3_read_108, xX3_read_110, xX3_read_113, xX3_read_116, xX3_read_119, xX3_read_120, Bool.false_eq_true, if_true, if_false, kl_i, kl_a, kl_s, kl_u, kl_l, okS_nil, okS_cons, cat_i, cat_a, cat_s, cat_l, Nat.reduceAdd, Nat.reduceLeDiff, Nat.reduceSub, Nat.sub_zero, Nat.sub_self, Nat.zero_add, Nat.le_refl, Nat.zero_le, List.length_cons, List.length_nil, true_and, and_true, true_or, or_true, eq_self, forall_const, true_implies, not_true_eq_false, not_false_eq_true, false_implies, implies_true, false_and, and_false, false_or, or_false, p39_0, p39_1, p39_2, p39_3, p39_4, p39_5, u39_0, u39_1, u39_2, u39_3, u39_4, u39_5, s31, s31, s31_32, upM_setR, setR_setR, tp_1, tp_2, tp_3, tp_4, tp_5, tp_6, tp_7, up_2, up_3, up_4, up_5, up_6, up_7, hw.1]
    have ok3 : okS3 T (r3 B T P).2 := stN_ok ok2
    refine t_readSign hw (tpH_39 hb) hT ok3 (fun x y z => ?_)
    unfold TS
    simp only [xX3_read_0, xX3_read_1, xX3_read_2, xX3_read_5, xX3_read_6, xX3_read_7, xX3_read_10, xX3_read_11, xX3_read_13, xX3_read_16, xX3_read_17, xX3_read_18, xX3_read_20, xX3_read_23, xX3_read_24, xX3_read_25, xX3_read_26, xX3_read_29, xX3_read_32, xX3_read_33, xX3_read_34, xX3_read_37, xX3_read_38, xX3_read_39, xX3_read_40, xX3_read_43, xX3_read_44, xX3_read_48, xX3_read_50, xX3_read_53, xX3_read_54, xX3_read_57, xX3_read_60, xX3_read_61, xX3_read_64, xX3_read_65, xX3_read_68, xX3_read_69, xX3_read_72, xX3_read_73, xX3_read_74, xX3_read_75, xX3_read_77, xX3_read_80, xX3_read_83, xX3_read_84, xX3_read_85, xX3_read_88, xX3_read_91, xX3_read_93, xX3_read_95, xX3_read_98, xX3_read_99, xX3_read_100, xX3_read_103, xX3_read_106, xX3_read_107, xX3_read_108, xX3_read_110, xX3_read_113, xX3_read_116, xX3_read_119, xX3_read_120, Bool.false_eq_true, if_true, if_false, kl_i, kl_a, kl_s, kl_u, kl_l, okS_nil, okS_cons, cat_i, cat_a, cat_s, cat_l, Nat.reduceAdd, Nat.reduceLeDiff, Nat.reduceSub, Nat.sub_zero, Nat.sub_self, Nat.zero_add, Nat.le_refl, Nat.zero_le, List.length_cons, List.length_nil, true_and, and_true, true_or, or_true, eq_self, forall_const, true_implies, not_true_eq_false, not_false_eq_true, false_implies, implies_true, false_and, and_false, false_or, or_false, p39_0, p39_1, p39_2, p39_3, p39_4, p39_5, u39_0, u39_1, u39_2, u39_3, u39_4, u39_5, s31, s31, s31_32, upM_setR, setR_setR, tp_1, tp_2, tp_3, tp_4, tp_5, tp_6, tp_7, up_2, up_3, up_4, up_5, up_6, up_7, hw.1, hP.1]
    rw [sp_31]
    refine t_begin hP ?_
    rw [← sp_31]
    exact l_rd (room := (r3 B T P).1) hw hP hb hT (by have := @stN_b B T 1 999 (r2 B T P).2; exact Nat.lt_trans this (by decide)) 8 0 (r4 B T P) (beginQ q (nI (r2 B T P).1) (nI (r3 B T P).1)) x y z (by omega) (by omega) r4_ok rfl hQ
  rw [e0]
  exact main (m 31) (getP m 39) _ _ _ _ _ hT2 hQ
