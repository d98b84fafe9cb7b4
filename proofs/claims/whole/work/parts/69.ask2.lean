/-! calls: ask, the model's side -/
def askL (k z : Nat) : List Int32 := if k < 4 then (if z = 1 then mkL (nI k) else (if k = 2 then [12, 11, 10] else [11, 10]) ++ mkL (nI k)) else (if z = 0 then soL (nI k) else [23, 20] ++ soL (nI k))
def askA (k z v : Nat) (fi fl : Int32) : Int32 := if k < 4 then (if z = 1 then mkA (nI k) (nI v + fl) else (if k = 2 then -(fi + mkA (nI k) (nI v + fl)) else fi + mkA (nI k) (nI v + fl))) else (if z = 0 then soA (nI k) (fi - 100) else nI v - soA (nI k) (fi - 100))
theorem t_mAsk {K : Cx} {d N v k z : Nat} {σ : Sg} {m : Mm} {l : Ml} {Q : Rt} (hm : wfM σ) (h7 : N ≤ 7) (hN : m 204 2 = nI N) (hv : v < N) (hk : m 204 (5 + v) = nI k) (hk5 : k ≤ 5) (hz : z ≤ 1)
    (hQ : Q (askA k z v (m 204 (26 + v)) (m 204 (12 + v))) σ (mpsh (upM m 199 13 0) 0 (askL k z)) l) : CT K (d + 4) YX6_ask [.ref 199, .int (nI v), .int (nI z)] σ m l Q := by
  have hm0 := hm
  obtain ⟨M0, R0, R1, R2, R4, R8, R10, R11, R12, R14, R20, R21, R22, A200, L200, A201, L201, A202, L202, A203, L203, A204, L204, A205, L205, A206, L206, A207, L207, A208, L208, A209, L209, A210, L210, A211, L211⟩ := hm
  have c5 := clN (v := 5 + v) (by omega)
  have v5 := inN (v := 5 + v) (n := 40) (by omega) (by omega)
  have c26 := clN (v := 26 + v) (by omega)
  have v26 := inN (v := 26 + v) (n := 40) (by omega) (by omega)
  have hx : ¬ nI v < 0 ∧ nI v < nI N := ⟨nI_pos (by omega), (ltN (by omega) (by omega)).mpr hv⟩
  have hz01 : ¬ nI z < 0 ∧ ¬ 1 < nI z := ⟨nI_pos (by omega), fun g => by
    have := (ltN (a := 1) (b := z) (by omega) (by omega)).mp g
    omega⟩
  have e204 : upM m 199 13 0 204 = m 204 := upM_n _ _ _ (by decide)
  have e13 : upM m 199 13 0 199 13 = nI 0 := by rw [upM_s, upd_s]; rfl
  have cz1 : (nI z = 1) = (z = 1) := eqN (a := z) (b := 1) (by omega) (by omega)
  have cz0 : (nI z = 0) = (z = 0) := eqN (a := z) (b := 0) (by omega) (by omega)
  have ck4 : (nI k < 4) = (k < 4) := ltN (a := k) (b := 4) (by omega) (by omega)
  have ck2 : (nI k = 2) = (k = 2) := eqN (a := k) (b := 2) (by omega) (by omega)
  refine kX6_ask ?_
  simp only [xX6_ask_0, xX6_ask_1, xX6_ask_2, xX6_ask_5, xX6_ask_8, xX6_ask_9, xX6_ask_10, xX6_ask_11, xX6_ask_12, xX6_ask_15, xX6_ask_18, xX6_ask_20, xX6_ask_21, xX6_ask_22, xX6_ask_23, xX6_ask_26, xX6_ask_27, xX6_ask_30, xX6_ask_31, xX6_ask_32, xX6_ask_33, xX6_ask_34, xX6_ask_35, xX6_ask_36, xX6_ask_37, xX6_ask_40, xX6_ask_41, xX6_ask_42, xX6_ask_45, xX6_ask_46, xX6_ask_47, xX6_ask_50, xX6_ask_51, xX6_ask_52, xX6_ask_53, xX6_ask_54, xX6_ask_57, xX6_ask_60, xX6_ask_63, xX6_ask_66, xX6_ask_69, xX6_ask_70, xX6_ask_73, xX6_ask_75, xX6_ask_76, xX6_ask_77, xX6_ask_78, xX6_ask_79, xX6_ask_80, xX6_ask_83, xX6_ask_84, xX6_ask_86, xX6_ask_87, xX6_ask_88, xX6_ask_91, xX6_ask_93, xX6_ask_94, xX6_ask_97, xX6_ask_99, xX6_ask_100, xX6_ask_101, xX6_ask_104, xX6_ask_105, xX6_ask_106, xX6_ask_109, xX6_ask_110, xX6_ask_111, xX6_ask_114, xX6_ask_117, xX6_ask_118, xX6_ask_119, xX6_ask_120, xX6_ask_123, xX6_ask_124, Bool.false_eq_true, if_true, if_false, kl_i, kl_a, kl_s, kl_u, kl_l, okS_nil, okS_cons, cat_i, cat_a, cat_s, cat_l, Nat.reduceAdd, Nat.reduceLeDiff, Nat.reduceSub, Nat.sub_zero, Nat.sub_self, Nat.zero_add, Nat.le_refl, Nat.zero_le, List.length_cons, List.length_nil, true_and, and_true, true_or, or_true, eq_self, forall_const, true_implies, not_true_eq_false, not_false_eq_true, false_implies, implies_true, false_and, and_false, false_or, or_false, M0]
  refine t_isVillage hm0 hN h7 ?_
  rw [if_pos hx]
  simp only [xX6_ask_0, xX6_ask_1, xX6_ask_2, xX6_ask_5, xX6_ask_8, xX6_ask_9, xX6_ask_10, xX6_ask_11, xX6_ask_12, xX6_ask_15, xX6_ask_18, xX6_ask_20, xX6_ask_21, xX6_ask_22, xX6_ask_23, xX6_ask_26, xX6_ask_27, xX6_ask_30, xX6_ask_31, xX6_ask_32, xX6_ask_33, xX6_ask_34, xX6_ask_35, xX6_ask_36, xX6_ask_37, xX6_ask_40, xX6_ask_41, xX6_ask_42, xX6_ask_45, xX6_ask_46, xX6_ask_47, xX6_ask_50, xX6_ask_51, xX6_ask_52, xX6_ask_53, xX6_ask_54, xX6_ask_57, xX6_ask_60, xX6_ask_63, xX6_ask_66, xX6_ask_69, xX6_ask_70, xX6_ask_73, xX6_ask_75, xX6_ask_76, xX6_ask_77, xX6_ask_78, xX6_ask_79, xX6_ask_80, xX6_ask_83, xX6_ask_84, xX6_ask_86, xX6_ask_87, xX6_ask_88, xX6_ask_91, xX6_ask_93, xX6_ask_94, xX6_ask_97, xX6_ask_99, xX6_ask_100, xX6_ask_101, xX6_ask_104, xX6_ask_105, xX6_ask_106, xX6_ask_109, xX6_ask_110, xX6_ask_111, xX6_ask_114, xX6_ask_117, xX6_ask_118, xX6_ask_119, xX6_ask_120, xX6_ask_123, xX6_ask_124, Bool.false_eq_true, if_true, if_false, kl_i, kl_a, kl_s, kl_u, kl_l, okS_nil, okS_cons, cat_i, cat_a, cat_s, cat_l, Nat.reduceAdd, Nat.reduceLeDiff, Nat.reduceSub, Nat.sub_zero, Nat.sub_self, Nat.zero_add, Nat.le_refl, Nat.zero_le, List.length_cons, List.length_nil, true_and, and_true, true_or, or_true, eq_self, forall_const, true_implies, not_true_eq_false, not_false_eq_true, false_implies, implies_true, false_and, and_false, false_or, or_false, M0, i10]
  refine t_inI (a := 0) (b := 1) (by decide) (by decide) ?_
  rw [if_pos hz01]
  simp only [xX6_ask_0, xX6_ask_1, xX6_ask_2, xX6_ask_5, xX6_ask_8, xX6_ask_9, xX6_ask_10, xX6_ask_11, xX6_ask_12, xX6_ask_15, xX6_ask_18, xX6_ask_20, xX6_ask_21, xX6_ask_22, xX6_ask_23, xX6_ask_26, xX6_ask_27, xX6_ask_30, xX6_ask_31, xX6_ask_32, xX6_ask_33, xX6_ask_34, xX6_ask_35, xX6_ask_36, xX6_ask_37, xX6_ask_40, xX6_ask_41, xX6_ask_42, xX6_ask_45, xX6_ask_46, xX6_ask_47, xX6_ask_50, xX6_ask_51, xX6_ask_52, xX6_ask_53, xX6_ask_54, xX6_ask_57, xX6_ask_60, xX6_ask_63, xX6_ask_66, xX6_ask_69, xX6_ask_70, xX6_ask_73, xX6_ask_75, xX6_ask_76, xX6_ask_77, xX6_ask_78, xX6_ask_79, xX6_ask_80, xX6_ask_83, xX6_ask_84, xX6_ask_86, xX6_ask_87, xX6_ask_88, xX6_ask_91, xX6_ask_93, xX6_ask_94, xX6_ask_97, xX6_ask_99, xX6_ask_100, xX6_ask_101, xX6_ask_104, xX6_ask_105, xX6_ask_106, xX6_ask_109, xX6_ask_110, xX6_ask_111, xX6_ask_114, xX6_ask_117, xX6_ask_118, xX6_ask_119, xX6_ask_120, xX6_ask_123, xX6_ask_124, Bool.false_eq_true, if_true, if_false, kl_i, kl_a, kl_s, kl_u, kl_l, okS_nil, okS_cons, cat_i, cat_a, cat_s, cat_l, Nat.reduceAdd, Nat.reduceLeDiff, Nat.reduceSub, Nat.sub_zero, Nat.sub_self, Nat.zero_add, Nat.le_refl, Nat.zero_le, List.length_cons, List.length_nil, true_and, and_true, true_or, or_true, eq_self, forall_const, true_implies, not_true_eq_false, not_false_eq_true, false_implies, implies_true, false_and, and_false, false_or, or_false, M0, R8, A204, L204, i10, k5, c5, v5, e204, hk, ck4, cz1, cz0, ck2]
  unfold askA askL at hQ
  have mk : ∀ (m1 : Mm) (t : Nat) (Q' : Rt), m1 204 = m 204 → m1 199 13 = nI t → t + 3 ≤ 16 → Q' (mkA (nI k) (nI v + m 204 (12 + v))) σ (mpsh m1 t (mkL (nI k))) l → CT K (d + 3) YX6_mark [.ref 199, .int (nI v)] σ m1 l Q' := by
    intro m1 t Q' g1 g2 g3 g4
    refine t_mark (N := N) hm0 (by omega) g2 g3 ?_
    rw [g1, hk]
    exact g4
  have so : ∀ (m1 : Mm) (t : Nat) (Q' : Rt), m1 204 = m 204 → m1 199 13 = nI t → t + 3 ≤ 16 → Q' (soA (nI k) (m 204 (26 + v) - 100)) σ (mpsh m1 t (soL (nI k))) l → CT K (d + 3) YX6_sizeOf [.ref 199, .int (nI v)] σ m1 l Q' := by
    intro m1 t Q' g1 g2 g3 g4
    refine t_sizeOf hm0 (by omega) g2 g3 ?_
    rw [g1, hk]
    exact g4
  have o204 : ∀ L, mpsh (upM m 199 13 0) 0 L 204 = m 204 := fun L => (mpsh_o (by decide) (by decide) L _ 0).trans e204
  have o13 : ∀ L, mpsh (upM m 199 13 0) 0 L 199 13 = nI (0 + L.length) := fun L => mpsh_13 L _ 0 e13
  by_cases h4 : k < 4
  · rw [if_pos h4, if_pos h4] at hQ
    refine ⟨fun g => ?_, fun g => ?_⟩
    · first
        | exact absurd h4 g
        | skip
      by_cases h1 : z = 1
      · rw [if_pos h1, if_pos h1] at hQ
        refine ⟨fun _ => mk _ 0 _ e204 e13 (by omega) hQ, fun g => absurd h1 g⟩
      · rw [if_neg h1, if_neg h1] at hQ
        refine ⟨fun g => absurd g h1, fun _ => ?_⟩
        by_cases h2 : k = 2
        · rw [if_pos h2, if_pos h2, mpsh_app] at hQ
          refine ⟨fun _ => ?_, fun g => absurd h2 g⟩
          refine t_leave3 hm0 e13 (by omega) (by decide) (by decide) (by decide) (p := 12) (q := 11) (r := 10) (by decide) (by decide) (by decide) ?_
          simp only [xX6_ask_0, xX6_ask_1, xX6_ask_2, xX6_ask_5, xX6_ask_8, xX6_ask_9, xX6_ask_10, xX6_ask_11, xX6_ask_12, xX6_ask_15, xX6_ask_18, xX6_ask_20, xX6_ask_21, xX6_ask_22, xX6_ask_23, xX6_ask_26, xX6_ask_27, xX6_ask_30, xX6_ask_31, xX6_ask_32, xX6_ask_33, xX6_ask_34, xX6_ask_35, xX6_ask_36, xX6_ask_37, xX6_ask_40, xX6_ask_41, xX6_ask_42, xX6_ask_45, xX6_ask_46, xX6_ask_47, xX6_ask_50, xX6_ask_51, xX6_ask_52, xX6_ask_53, xX6_ask_54, xX6_ask_57, xX6_ask_60, xX6_ask_63, xX6_ask_66, xX6_ask_69, xX6_ask_70, xX6_ask_73, xX6_ask_75, xX6_ask_76, xX6_ask_77, xX6_ask_78, xX6_ask_79, xX6_ask_80, xX6_ask_83, xX6_ask_84, xX6_ask_86, xX6_ask_87, xX6_ask_88, xX6_ask_91, xX6_ask_93, xX6_ask_94, xX6_ask_97, xX6_ask_99, xX6_ask_100, xX6_ask_101, xX6_ask_104, xX6_ask_105, xX6_ask_106, xX6_ask_109, xX6_ask_110, xX6_ask_111, xX6_ask_114, xX6_ask_117, xX6_ask_118, xX6_ask_119, xX6_ask_120, xX6_ask_123, xX6_ask_124, Bool.false_eq_true, if_true, if_false, kl_i, kl_a, kl_s, kl_u, kl_l, okS_nil, okS_cons, cat_i, cat_a, cat_s, cat_l, Nat.reduceAdd, Nat.reduceLeDiff, Nat.reduceSub, Nat.sub_zero, Nat.sub_self, Nat.zero_add, Nat.le_refl, Nat.zero_le, List.length_cons, List.length_nil, true_and, and_true, true_or, or_true, eq_self, forall_const, true_implies, not_true_eq_false, not_false_eq_true, false_implies, implies_true, false_and, and_false, false_or, or_false, M0, R8, A204, L204, k26, c26, v26, o204]
          refine mk _ 3 _ (o204 _) (o13 _) (by omega) ?_
          exact ⟨fun _ => hQ, fun g => absurd (ck2.mpr h2) g⟩
        · rw [if_neg h2, if_neg h2, mpsh_app] at hQ
          refine ⟨fun g => absurd g h2, fun _ => ?_⟩
          refine t_leave2 hm0 e13 (by omega) (by decide) (by decide) (p := 11) (q := 10) (by decide) (by decide) ?_
          simp only [xX6_ask_0, xX6_ask_1, xX6_ask_2, xX6_ask_5, xX6_ask_8, xX6_ask_9, xX6_ask_10, xX6_ask_11, xX6_ask_12, xX6_ask_15, xX6_ask_18, xX6_ask_20, xX6_ask_21, xX6_ask_22, xX6_ask_23, xX6_ask_26, xX6_ask_27, xX6_ask_30, xX6_ask_31, xX6_ask_32, xX6_ask_33, xX6_ask_34, xX6_ask_35, xX6_ask_36, xX6_ask_37, xX6_ask_40, xX6_ask_41, xX6_ask_42, xX6_ask_45, xX6_ask_46, xX6_ask_47, xX6_ask_50, xX6_ask_51, xX6_ask_52, xX6_ask_53, xX6_ask_54, xX6_ask_57, xX6_ask_60, xX6_ask_63, xX6_ask_66, xX6_ask_69, xX6_ask_70, xX6_ask_73, xX6_ask_75, xX6_ask_76, xX6_ask_77, xX6_ask_78, xX6_ask_79, xX6_ask_80, xX6_ask_83, xX6_ask_84, xX6_ask_86, xX6_ask_87, xX6_ask_88, xX6_ask_91, xX6_ask_93, xX6_ask_94, xX6_ask_97, xX6_ask_99, xX6_ask_100, xX6_ask_101, xX6_ask_104, xX6_ask_105, xX6_ask_106, xX6_ask_109, xX6_ask_110, xX6_ask_111, xX6_ask_114, xX6_ask_117, xX6_ask_118, xX6_ask_119, xX6_ask_120, xX6_ask_123, xX6_ask_124, Bool.false_eq_true, if_true, if_false, kl_i, kl_a, kl_s, kl_u, kl_l, okS_nil, okS_cons, cat_i, cat_a, cat_s, cat_l, Nat.reduceAdd, Nat.reduceLeDiff, Nat.reduceSub, Nat.sub_zero, Nat.sub_self, Nat.zero_add, Nat.le_refl, Nat.zero_le, List.length_cons, List.length_nil, true_and, and_true, true_or, or_true, eq_self, forall_const, true_implies, not_true_eq_false, not_false_eq_true, false_implies, implies_true, false_and, and_false, false_or, or_false, M0, R8, A204, L204, k26, c26, v26, o204]
          refine mk _ 2 _ (o204 _) (o13 _) (by omega) ?_
          exact ⟨fun g => absurd (ck2.mp g) h2, fun _ => hQ⟩
    · first
        | exact absurd h4 g
        | exact absurd g h4
  · rw [if_neg h4, if_neg h4] at hQ
    refine ⟨fun g => absurd g h4, fun _ => ⟨fun g => ?_, fun g => ?_⟩⟩
    · rw [if_pos g, if_pos g] at hQ
      exact so _ 0 _ e204 e13 (by omega) hQ
    · rw [if_neg g, if_neg g, mpsh_app] at hQ
      refine t_leave2 hm0 e13 (by omega) (by decide) (by decide) (p := 23) (q := 20) (by decide) (by decide) ?_
      first
        | exact so _ 2 _ (o204 _) (o13 _) (by omega) hQ
        | (simp only [xX6_ask_0, xX6_ask_1, xX6_ask_2, xX6_ask_5, xX6_ask_8, xX6_ask_9, xX6_ask_10, xX6_ask_11, xX6_ask_12, xX6_ask_15, xX6_ask_18, xX6_ask_20, xX6_ask_21, xX6_ask_22, xX6_ask_23, xX6_ask_26, xX6_ask_27, xX6_ask_30, xX6_ask_31, xX6_ask_32, xX6_ask_33, xX6_ask_34, xX6_ask_35, xX6_ask_36, xX6_ask_37, xX6_ask_40, xX6_ask_41, xX6_ask_42, xX6_ask_45, xX6_ask_46, xX6_ask_47, xX6_ask_50, xX6_ask_51, xX6_ask_52, xX6_ask_53, xX6_ask_54, xX6_ask_57, xX6_ask_60, xX6_ask_63, xX6_ask_66, xX6_ask_69, xX6_ask_70, xX6_ask_73, xX6_ask_75, xX6_ask_76, xX6_ask_77, xX6_ask_78, xX6_ask_79, xX6_ask_80, xX6_ask_83, xX6_ask_84, xX6_ask_86, xX6_ask_87, xX6_ask_88, xX6_ask_91, xX6_ask_93, xX6_ask_94, xX6_ask_97, xX6_ask_99, xX6_ask_100, xX6_ask_101, xX6_ask_104, xX6_ask_105, xX6_ask_106, xX6_ask_109, xX6_ask_110, xX6_ask_111, xX6_ask_114, xX6_ask_117, xX6_ask_118, xX6_ask_119, xX6_ask_120, xX6_ask_123, xX6_ask_124, Bool.false_eq_true, if_true, if_false, kl_i, kl_a, kl_s, kl_u, kl_l, okS_nil, okS_cons, cat_i, cat_a, cat_s, cat_l, Nat.reduceAdd, Nat.reduceLeDiff, Nat.reduceSub, Nat.sub_zero, Nat.sub_self, Nat.zero_add, Nat.le_refl, Nat.zero_le, List.length_cons, List.length_nil, true_and, and_true, true_or, or_true, eq_self, forall_const, true_implies, not_true_eq_false, not_false_eq_true, false_implies, implies_true, false_and, and_false, false_or, or_false, M0]
           exact so _ 2 _ (o204 _) (o13 _) (by omega) hQ)
