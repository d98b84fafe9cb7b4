/-! the class Plain: nights, days -/
def nxt (N v : Nat) : Nat := if v + 1 < N then v + 1 else 0
/-- the lesser of two, as Math.min has it -/
def mnI (x y : Int32) : Int32 := if y < x then y else x
theorem mnI_f (x y : Int32) : (if y < x then y else x) = mnI x y := rfl
/-- one draws from the next one's well: fills behind it -/
def ngG (q : Mm) (dr : Int32) (v nx : Nat) (f : Nat → Int32) : Nat → Int32 :=
  if gd dr (nI v) = true ∧ gd (q 0 10) (nI v) = false ∧ gd (q 0 10) (nI nx) = false ∧ ¬ q 1 nx = 5 then
    upd (upd f nx (f nx - mnI (wantK (q 1 v) (q 0 6)) (f nx))) v (mnI (q 0 7) (upd f nx (f nx - mnI (wantK (q 1 v) (q 0 6)) (f nx)) v + mnI (wantK (q 1 v) (q 0 6)) (f nx)))
  else f
def ngL (N : Nat) (q : Mm) (dr : Int32) : Nat → Nat → (Nat → Int32) → Nat → Int32
  | _, 0, f => f
  | v, k + 1, f => ngL N q dr (v + 1) k (ngG q dr v (nxt N v) f)
theorem l_pnBody {K : Cx} {d : Nat} {σ : Sg} {m : Mm} {l : Ml} {p v nx : Nat} {dr : Int32} {q : Mm} {f : Nat → Int32} {Q : Rt} {e3 e4 : Value} (hp : isP σ p) (hv : v < 7) (hx : nx < 7) (h : ∀ e4', WX (tX1_passNight K (d + 2)) Q (102, [.ref p, .int dr, .int (nI v), .int (nI nx), e4'], [], (0, 0), σ, putP m p (setR q 2 (ngG q dr v nx f)), l)) : WX (tX1_passNight K (d + 2)) Q (27, [.ref p, .int dr, .int (nI v), e3, e4], [.int (nI nx)], (0, 0), σ, putP m p (setR q 2 f), l) := by
  have hp0 := hp
  obtain ⟨hO, r0, r1, r2, r3, r4, o1, o2, o3, o4, o5, l1, l2, l3, l4, l5⟩ := hp
  have hcv := clN (v := v) (by omega)
  have hcx := clN (v := nx) (by omega)
  have hiv := inN (v := v) (n := 7) hv (by omega)
  have hix := inN (v := nx) (n := 7) hx (by omega)
  simp only [xX1_passNight_0, xX1_passNight_1, xX1_passNight_3, xX1_passNight_4, xX1_passNight_7, xX1_passNight_10, xX1_passNight_11, xX1_passNight_12, xX1_passNight_13, xX1_passNight_14, xX1_passNight_17, xX1_passNight_20, xX1_passNight_21, xX1_passNight_22, xX1_passNight_23, xX1_passNight_26, xX1_passNight_27, xX1_passNight_28, xX1_passNight_29, xX1_passNight_30, xX1_passNight_31, xX1_passNight_32, xX1_passNight_33, xX1_passNight_34, xX1_passNight_37, xX1_passNight_38, xX1_passNight_39, xX1_passNight_42, xX1_passNight_45, xX1_passNight_46, xX1_passNight_47, xX1_passNight_50, xX1_passNight_53, xX1_passNight_54, xX1_passNight_55, xX1_passNight_58, xX1_passNight_59, xX1_passNight_62, xX1_passNight_63, xX1_passNight_64, xX1_passNight_67, xX1_passNight_69, xX1_passNight_70, xX1_passNight_73, xX1_passNight_74, xX1_passNight_75, xX1_passNight_76, xX1_passNight_78, xX1_passNight_79, xX1_passNight_80, xX1_passNight_81, xX1_passNight_84, xX1_passNight_85, xX1_passNight_86, xX1_passNight_89, xX1_passNight_90, xX1_passNight_93, xX1_passNight_94, xX1_passNight_95, xX1_passNight_97, xX1_passNight_98, xX1_passNight_101, xX1_passNight_105, xX1_passNight_108, Bool.false_eq_true, if_true, if_false, kl_i, kl_a, kl_s, kl_u, kl_l, okS_nil, okS_cons, cat_i, cat_a, cat_s, cat_l, Nat.reduceAdd, Nat.reduceLeDiff, Nat.reduceSub, Nat.sub_zero, Nat.sub_self, Nat.zero_add, Nat.le_refl, Nat.zero_le, List.length_cons, List.length_nil, true_and, and_true, true_or, or_true, eq_self, forall_const, true_implies, not_true_eq_false, not_false_eq_true, false_implies, implies_true, false_and, and_false, false_or, or_false, hO, r0, r1, r2, r3, r4, o1, o2, o3, o4, o5, l1, l2, l3, l4, l5, putP_0, putP_1, putP_2, putP_3, putP_4, putP_5, vputP_0, vputP_1, vputP_2, vputP_3, vputP_4, vputP_5, setR_setR, sr20, sr21, sr22, sr23, sr24, sr25, gd_f, hcv, hcx, hiv, hix, mnI_f]
  cases h1 : gd dr (nI v)
  · have e : ngG q dr v nx f = f := by simp [ngG, h1]
    rw [e] at h
    simp only [Bool.false_eq_true, if_true, if_false, kl_i, kl_a, kl_s, kl_u, kl_l, okS_nil, okS_cons, cat_i, cat_a, cat_s, cat_l, Nat.reduceAdd, Nat.reduceLeDiff, Nat.reduceSub, Nat.sub_zero, Nat.sub_self, Nat.zero_add, Nat.le_refl, Nat.zero_le, List.length_cons, List.length_nil, true_and, and_true, true_or, or_true, eq_self, forall_const, true_implies, not_true_eq_false, not_false_eq_true, false_implies, implies_true, false_and, and_false, false_or, or_false]
    exact h _
  · simp only [Bool.false_eq_true, if_true, if_false, kl_i, kl_a, kl_s, kl_u, kl_l, okS_nil, okS_cons, cat_i, cat_a, cat_s, cat_l, Nat.reduceAdd, Nat.reduceLeDiff, Nat.reduceSub, Nat.sub_zero, Nat.sub_self, Nat.zero_add, Nat.le_refl, Nat.zero_le, List.length_cons, List.length_nil, true_and, and_true, true_or, or_true, eq_self, forall_const, true_implies, not_true_eq_false, not_false_eq_true, false_implies, implies_true, false_and, and_false, false_or, or_false]
    refine t_isGuarding hO ?_
    simp only [putP_0, putP_1, putP_2, putP_3, putP_4, putP_5, vputP_0, vputP_1, vputP_2, vputP_3, vputP_4, vputP_5, setR_setR, sr20, sr21, sr22, sr23, sr24, sr25]
    cases h2 : gd (q 0 10) (nI v)
    · simp only [xX1_passNight_0, xX1_passNight_1, xX1_passNight_3, xX1_passNight_4, xX1_passNight_7, xX1_passNight_10, xX1_passNight_11, xX1_passNight_12, xX1_passNight_13, xX1_passNight_14, xX1_passNight_17, xX1_passNight_20, xX1_passNight_21, xX1_passNight_22, xX1_passNight_23, xX1_passNight_26, xX1_passNight_27, xX1_passNight_28, xX1_passNight_29, xX1_passNight_30, xX1_passNight_31, xX1_passNight_32, xX1_passNight_33, xX1_passNight_34, xX1_passNight_37, xX1_passNight_38, xX1_passNight_39, xX1_passNight_42, xX1_passNight_45, xX1_passNight_46, xX1_passNight_47, xX1_passNight_50, xX1_passNight_53, xX1_passNight_54, xX1_passNight_55, xX1_passNight_58, xX1_passNight_59, xX1_passNight_62, xX1_passNight_63, xX1_passNight_64, xX1_passNight_67, xX1_passNight_69, xX1_passNight_70, xX1_passNight_73, xX1_passNight_74, xX1_passNight_75, xX1_passNight_76, xX1_passNight_78, xX1_passNight_79, xX1_passNight_80, xX1_passNight_81, xX1_passNight_84, xX1_passNight_85, xX1_passNight_86, xX1_passNight_89, xX1_passNight_90, xX1_passNight_93, xX1_passNight_94, xX1_passNight_95, xX1_passNight_97, xX1_passNight_98, xX1_passNight_101, xX1_passNight_105, xX1_passNight_108, Bool.false_eq_true, if_true, if_false, kl_i, kl_a, kl_s, kl_u, kl_l, okS_nil, okS_cons, cat_i, cat_a, cat_s, cat_l, Nat.reduceAdd, Nat.reduceLeDiff, Nat.reduceSub, Nat.sub_zero, Nat.sub_self, Nat.zero_add, Nat.le_refl, Nat.zero_le, List.length_cons, List.length_nil, true_and, and_true, true_or, or_true, eq_self, forall_const, true_implies, not_true_eq_false, not_false_eq_true, false_implies, implies_true, false_and, and_false, false_or, or_false, hO, r0, r1, r2, r3, r4, o1, o2, o3, o4, o5, l1, l2, l3, l4, l5, putP_0, putP_1, putP_2, putP_3, putP_4, putP_5, vputP_0, vputP_1, vputP_2, vputP_3, vputP_4, vputP_5, setR_setR, sr20, sr21, sr22, sr23, sr24, sr25, gd_f, hcv, hcx, hiv, hix, mnI_f]
      refine t_isWatched hp0 hix ?_
      simp only [putP_0, putP_1, putP_2, putP_3, putP_4, putP_5, vputP_0, vputP_1, vputP_2, vputP_3, vputP_4, vputP_5, setR_setR, sr20, sr21, sr22, sr23, sr24, sr25, hcx]
      cases h3 : gd (q 0 10) (nI nx)
      · by_cases h4 : q 1 nx = 5
        · have e : ngG q dr v nx f = f := by simp [ngG, h4]
          rw [e] at h
          simp only [h4, xX1_passNight_0, xX1_passNight_1, xX1_passNight_3, xX1_passNight_4, xX1_passNight_7, xX1_passNight_10, xX1_passNight_11, xX1_passNight_12, xX1_passNight_13, xX1_passNight_14, xX1_passNight_17, xX1_passNight_20, xX1_passNight_21, xX1_passNight_22, xX1_passNight_23, xX1_passNight_26, xX1_passNight_27, xX1_passNight_28, xX1_passNight_29, xX1_passNight_30, xX1_passNight_31, xX1_passNight_32, xX1_passNight_33, xX1_passNight_34, xX1_passNight_37, xX1_passNight_38, xX1_passNight_39, xX1_passNight_42, xX1_passNight_45, xX1_passNight_46, xX1_passNight_47, xX1_passNight_50, xX1_passNight_53, xX1_passNight_54, xX1_passNight_55, xX1_passNight_58, xX1_passNight_59, xX1_passNight_62, xX1_passNight_63, xX1_passNight_64, xX1_passNight_67, xX1_passNight_69, xX1_passNight_70, xX1_passNight_73, xX1_passNight_74, xX1_passNight_75, xX1_passNight_76, xX1_passNight_78, xX1_passNight_79, xX1_passNight_80, xX1_passNight_81, xX1_passNight_84, xX1_passNight_85, xX1_passNight_86, xX1_passNight_89, xX1_passNight_90, xX1_passNight_93, xX1_passNight_94, xX1_passNight_95, xX1_passNight_97, xX1_passNight_98, xX1_passNight_101, xX1_passNight_105, xX1_passNight_108, Bool.false_eq_true, if_true, if_false, kl_i, kl_a, kl_s, kl_u, kl_l, okS_nil, okS_cons, cat_i, cat_a, cat_s, cat_l, Nat.reduceAdd, Nat.reduceLeDiff, Nat.reduceSub, Nat.sub_zero, Nat.sub_self, Nat.zero_add, Nat.le_refl, Nat.zero_le, List.length_cons, List.length_nil, true_and, and_true, true_or, or_true, eq_self, forall_const, true_implies, not_true_eq_false, not_false_eq_true, false_implies, implies_true, false_and, and_false, false_or, or_false, hO, r0, r1, r2, r3, r4, o1, o2, o3, o4, o5, l1, l2, l3, l4, l5, putP_0, putP_1, putP_2, putP_3, putP_4, putP_5, vputP_0, vputP_1, vputP_2, vputP_3, vputP_4, vputP_5, setR_setR, sr20, sr21, sr22, sr23, sr24, sr25, gd_f, hcv, hcx, hiv, hix, mnI_f, i10]
          exact h _
        · simp only [h4, xX1_passNight_0, xX1_passNight_1, xX1_passNight_3, xX1_passNight_4, xX1_passNight_7, xX1_passNight_10, xX1_passNight_11, xX1_passNight_12, xX1_passNight_13, xX1_passNight_14, xX1_passNight_17, xX1_passNight_20, xX1_passNight_21, xX1_passNight_22, xX1_passNight_23, xX1_passNight_26, xX1_passNight_27, xX1_passNight_28, xX1_passNight_29, xX1_passNight_30, xX1_passNight_31, xX1_passNight_32, xX1_passNight_33, xX1_passNight_34, xX1_passNight_37, xX1_passNight_38, xX1_passNight_39, xX1_passNight_42, xX1_passNight_45, xX1_passNight_46, xX1_passNight_47, xX1_passNight_50, xX1_passNight_53, xX1_passNight_54, xX1_passNight_55, xX1_passNight_58, xX1_passNight_59, xX1_passNight_62, xX1_passNight_63, xX1_passNight_64, xX1_passNight_67, xX1_passNight_69, xX1_passNight_70, xX1_passNight_73, xX1_passNight_74, xX1_passNight_75, xX1_passNight_76, xX1_passNight_78, xX1_passNight_79, xX1_passNight_80, xX1_passNight_81, xX1_passNight_84, xX1_passNight_85, xX1_passNight_86, xX1_passNight_89, xX1_passNight_90, xX1_passNight_93, xX1_passNight_94, xX1_passNight_95, xX1_passNight_97, xX1_passNight_98, xX1_passNight_101, xX1_passNight_105, xX1_passNight_108, Bool.false_eq_true, if_true, if_false, kl_i, kl_a, kl_s, kl_u, kl_l, okS_nil, okS_cons, cat_i, cat_a, cat_s, cat_l, Nat.reduceAdd, Nat.reduceLeDiff, Nat.reduceSub, Nat.sub_zero, Nat.sub_self, Nat.zero_add, Nat.le_refl, Nat.zero_le, List.length_cons, List.length_nil, true_and, and_true, true_or, or_true, eq_self, forall_const, true_implies, not_true_eq_false, not_false_eq_true, false_implies, implies_true, false_and, and_false, false_or, or_false, hO, r0, r1, r2, r3, r4, o1, o2, o3, o4, o5, l1, l2, l3, l4, l5, putP_0, putP_1, putP_2, putP_3, putP_4, putP_5, vputP_0, vputP_1, vputP_2, vputP_3, vputP_4, vputP_5, setR_setR, sr20, sr21, sr22, sr23, sr24, sr25, gd_f, hcv, hcx, hiv, hix, mnI_f]
          refine t_wants hp0 hiv ?_
          simp only [xX1_passNight_0, xX1_passNight_1, xX1_passNight_3, xX1_passNight_4, xX1_passNight_7, xX1_passNight_10, xX1_passNight_11, xX1_passNight_12, xX1_passNight_13, xX1_passNight_14, xX1_passNight_17, xX1_passNight_20, xX1_passNight_21, xX1_passNight_22, xX1_passNight_23, xX1_passNight_26, xX1_passNight_27, xX1_passNight_28, xX1_passNight_29, xX1_passNight_30, xX1_passNight_31, xX1_passNight_32, xX1_passNight_33, xX1_passNight_34, xX1_passNight_37, xX1_passNight_38, xX1_passNight_39, xX1_passNight_42, xX1_passNight_45, xX1_passNight_46, xX1_passNight_47, xX1_passNight_50, xX1_passNight_53, xX1_passNight_54, xX1_passNight_55, xX1_passNight_58, xX1_passNight_59, xX1_passNight_62, xX1_passNight_63, xX1_passNight_64, xX1_passNight_67, xX1_passNight_69, xX1_passNight_70, xX1_passNight_73, xX1_passNight_74, xX1_passNight_75, xX1_passNight_76, xX1_passNight_78, xX1_passNight_79, xX1_passNight_80, xX1_passNight_81, xX1_passNight_84, xX1_passNight_85, xX1_passNight_86, xX1_passNight_89, xX1_passNight_90, xX1_passNight_93, xX1_passNight_94, xX1_passNight_95, xX1_passNight_97, xX1_passNight_98, xX1_passNight_101, xX1_passNight_105, xX1_passNight_108, Bool.false_eq_true, if_true, if_false, kl_i, kl_a, kl_s, kl_u, kl_l, okS_nil, okS_cons, cat_i, cat_a, cat_s, cat_l, Nat.reduceAdd, Nat.reduceLeDiff, Nat.reduceSub, Nat.sub_zero, Nat.sub_self, Nat.zero_add, Nat.le_refl, Nat.zero_le, List.length_cons, List.length_nil, true_and, and_true, true_or, or_true, eq_self, forall_const, true_implies, not_true_eq_false, not_false_eq_true, false_implies, implies_true, false_and, and_false, false_or, or_false, hO, r0, r1, r2, r3, r4, o1, o2, o3, o4, o5, l1, l2, l3, l4, l5, putP_0, putP_1, putP_2, putP_3, putP_4, putP_5, vputP_0, vputP_1, vputP_2, vputP_3, vputP_4, vputP_5, setR_setR, sr20, sr21, sr22, sr23, sr24, sr25, gd_f, hcv, hcx, hiv, hix, mnI_f]
          have e : ngG q dr v nx f = upd (upd f nx (f nx - mnI (wantK (q 1 v) (q 0 6)) (f nx))) v (mnI (q 0 7) (upd f nx (f nx - mnI (wantK (q 1 v) (q 0 6)) (f nx)) v + mnI (wantK (q 1 v) (q 0 6)) (f nx))) := by
            rw [ngG, if_pos ⟨h1, h2, h3, h4⟩]
          rw [e] at h
          exact h _
      · have e : ngG q dr v nx f = f := by simp [ngG, h3]
        rw [e] at h
        simp only [xX1_passNight_0, xX1_passNight_1, xX1_passNight_3, xX1_passNight_4, xX1_passNight_7, xX1_passNight_10, xX1_passNight_11, xX1_passNight_12, xX1_passNight_13, xX1_passNight_14, xX1_passNight_17, xX1_passNight_20, xX1_passNight_21, xX1_passNight_22, xX1_passNight_23, xX1_passNight_26, xX1_passNight_27, xX1_passNight_28, xX1_passNight_29, xX1_passNight_30, xX1_passNight_31, xX1_passNight_32, xX1_passNight_33, xX1_passNight_34, xX1_passNight_37, xX1_passNight_38, xX1_passNight_39, xX1_passNight_42, xX1_passNight_45, xX1_passNight_46, xX1_passNight_47, xX1_passNight_50, xX1_passNight_53, xX1_passNight_54, xX1_passNight_55, xX1_passNight_58, xX1_passNight_59, xX1_passNight_62, xX1_passNight_63, xX1_passNight_64, xX1_passNight_67, xX1_passNight_69, xX1_passNight_70, xX1_passNight_73, xX1_passNight_74, xX1_passNight_75, xX1_passNight_76, xX1_passNight_78, xX1_passNight_79, xX1_passNight_80, xX1_passNight_81, xX1_passNight_84, xX1_passNight_85, xX1_passNight_86, xX1_passNight_89, xX1_passNight_90, xX1_passNight_93, xX1_passNight_94, xX1_passNight_95, xX1_passNight_97, xX1_passNight_98, xX1_passNight_101, xX1_passNight_105, xX1_passNight_108, Bool.false_eq_true, if_true, if_false, kl_i, kl_a, kl_s, kl_u, kl_l, okS_nil, okS_cons, cat_i, cat_a, cat_s, cat_l, Nat.reduceAdd, Nat.reduceLeDiff, Nat.reduceSub, Nat.sub_zero, Nat.sub_self, Nat.zero_add, Nat.le_refl, Nat.zero_le, List.length_cons, List.length_nil, true_and, and_true, true_or, or_true, eq_self, forall_const, true_implies, not_true_eq_false, not_false_eq_true, false_implies, implies_true, false_and, and_false, false_or, or_false, hO, r0, r1, r2, r3, r4, o1, o2, o3, o4, o5, l1, l2, l3, l4, l5, putP_0, putP_1, putP_2, putP_3, putP_4, putP_5, vputP_0, vputP_1, vputP_2, vputP_3, vputP_4, vputP_5, setR_setR, sr20, sr21, sr22, sr23, sr24, sr25, gd_f, hcv, hcx, hiv, hix, mnI_f, i10]
        exact h _
    · have e : ngG q dr v nx f = f := by simp [ngG, h2]
      rw [e] at h
      simp only [xX1_passNight_0, xX1_passNight_1, xX1_passNight_3, xX1_passNight_4, xX1_passNight_7, xX1_passNight_10, xX1_passNight_11, xX1_passNight_12, xX1_passNight_13, xX1_passNight_14, xX1_passNight_17, xX1_passNight_20, xX1_passNight_21, xX1_passNight_22, xX1_passNight_23, xX1_passNight_26, xX1_passNight_27, xX1_passNight_28, xX1_passNight_29, xX1_passNight_30, xX1_passNight_31, xX1_passNight_32, xX1_passNight_33, xX1_passNight_34, xX1_passNight_37, xX1_passNight_38, xX1_passNight_39, xX1_passNight_42, xX1_passNight_45, xX1_passNight_46, xX1_passNight_47, xX1_passNight_50, xX1_passNight_53, xX1_passNight_54, xX1_passNight_55, xX1_passNight_58, xX1_passNight_59, xX1_passNight_62, xX1_passNight_63, xX1_passNight_64, xX1_passNight_67, xX1_passNight_69, xX1_passNight_70, xX1_passNight_73, xX1_passNight_74, xX1_passNight_75, xX1_passNight_76, xX1_passNight_78, xX1_passNight_79, xX1_passNight_80, xX1_passNight_81, xX1_passNight_84, xX1_passNight_85, xX1_passNight_86, xX1_passNight_89, xX1_passNight_90, xX1_passNight_93, xX1_passNight_94, xX1_passNight_95, xX1_passNight_97, xX1_passNight_98, xX1_passNight_101, xX1_passNight_105, xX1_passNight_108, Bool.false_eq_true, if_true, if_false, kl_i, kl_a, kl_s, kl_u, kl_l, okS_nil, okS_cons, cat_i, cat_a, cat_s, cat_l, Nat.reduceAdd, Nat.reduceLeDiff, Nat.reduceSub, Nat.sub_zero, Nat.sub_self, Nat.zero_add, Nat.le_refl, Nat.zero_le, List.length_cons, List.length_nil, true_and, and_true, true_or, or_true, eq_self, forall_const, true_implies, not_true_eq_false, not_false_eq_true, false_implies, implies_true, false_and, and_false, false_or, or_false, hO, r0, r1, r2, r3, r4, o1, o2, o3, o4, o5, l1, l2, l3, l4, l5, putP_0, putP_1, putP_2, putP_3, putP_4, putP_5, vputP_0, vputP_1, vputP_2, vputP_3, vputP_4, vputP_5, setR_setR, sr20, sr21, sr22, sr23, sr24, sr25, gd_f, hcv, hcx, hiv, hix, mnI_f, i10]
      exact h _
theorem l_pn {K : Cx} {d : Nat} {σ : Sg} {m : Mm} {l : Ml} {p N : Nat} {dr : Int32} {q : Mm} {Q : Rt} (hp : isP σ p) (hN : q 0 8 = nI N) (h7 : N ≤ 7) : ∀ (k v : Nat) (f : Nat → Int32) (e3 e4 : Value), v + k = N → Q 0 σ (putP m p (setR q 2 (ngL N q dr v k f))) l → WX (tX1_passNight K (d + 2)) Q (2, [.ref p, .int dr, .int (nI v), e3, e4], [], (0, 0), σ, putP m p (setR q 2 f), l) := by
  have hp0 := hp
  obtain ⟨hO, r0, r1, r2, r3, r4, o1, o2, o3, o4, o5, l1, l2, l3, l4, l5⟩ := hp
  intro k
  induction k with
  | zero =>
    intro v f e3 e4 hv hQ
    have c1 : (nI v < nI N) = False := by rw [ltN (by omega) (by omega)]; exact eq_false (by omega)
    simp only [xX1_passNight_0, xX1_passNight_1, xX1_passNight_2, xX1_passNight_3, xX1_passNight_4, xX1_passNight_7, xX1_passNight_10, xX1_passNight_11, xX1_passNight_12, xX1_passNight_13, xX1_passNight_14, xX1_passNight_17, xX1_passNight_20, xX1_passNight_21, xX1_passNight_22, xX1_passNight_23, xX1_passNight_26, xX1_passNight_28, xX1_passNight_29, xX1_passNight_30, xX1_passNight_31, xX1_passNight_32, xX1_passNight_33, xX1_passNight_34, xX1_passNight_37, xX1_passNight_38, xX1_passNight_39, xX1_passNight_42, xX1_passNight_45, xX1_passNight_46, xX1_passNight_47, xX1_passNight_50, xX1_passNight_53, xX1_passNight_54, xX1_passNight_55, xX1_passNight_58, xX1_passNight_59, xX1_passNight_62, xX1_passNight_63, xX1_passNight_64, xX1_passNight_67, xX1_passNight_69, xX1_passNight_70, xX1_passNight_73, xX1_passNight_74, xX1_passNight_75, xX1_passNight_76, xX1_passNight_78, xX1_passNight_79, xX1_passNight_80, xX1_passNight_81, xX1_passNight_84, xX1_passNight_85, xX1_passNight_86, xX1_passNight_89, xX1_passNight_90, xX1_passNight_93, xX1_passNight_94, xX1_passNight_95, xX1_passNight_97, xX1_passNight_98, xX1_passNight_101, xX1_passNight_102, xX1_passNight_105, xX1_passNight_108, Bool.false_eq_true, if_true, if_false, kl_i, kl_a, kl_s, kl_u, kl_l, okS_nil, okS_cons, cat_i, cat_a, cat_s, cat_l, Nat.reduceAdd, Nat.reduceLeDiff, Nat.reduceSub, Nat.sub_zero, Nat.sub_self, Nat.zero_add, Nat.le_refl, Nat.zero_le, List.length_cons, List.length_nil, true_and, and_true, true_or, or_true, eq_self, forall_const, true_implies, not_true_eq_false, not_false_eq_true, false_implies, implies_true, false_and, and_false, false_or, or_false, hO, r0, r1, r2, r3, r4, o1, o2, o3, o4, o5, l1, l2, l3, l4, l5, putP_0, putP_1, putP_2, putP_3, putP_4, putP_5, vputP_0, vputP_1, vputP_2, vputP_3, vputP_4, vputP_5, setR_setR, sr20, sr21, sr22, sr23, sr24, sr25, hN, c1]
    exact hQ
  | succ k ih =>
    intro v f e3 e4 hv hQ
    have c1 : (nI v < nI N) = True := by rw [ltN (by omega) (by omega)]; exact eq_true (by omega)
    have hc : ∀ e4', WX (tX1_passNight K (d + 2)) Q (102, [.ref p, .int dr, .int (nI v), .int (nI (nxt N v)), e4'], [], (0, 0), σ, putP m p (setR q 2 (ngG q dr v (nxt N v) f)), l) := by
      intro e4'
      simp only [xX1_passNight_0, xX1_passNight_1, xX1_passNight_3, xX1_passNight_4, xX1_passNight_7, xX1_passNight_10, xX1_passNight_11, xX1_passNight_12, xX1_passNight_13, xX1_passNight_14, xX1_passNight_17, xX1_passNight_20, xX1_passNight_21, xX1_passNight_22, xX1_passNight_23, xX1_passNight_26, xX1_passNight_27, xX1_passNight_28, xX1_passNight_29, xX1_passNight_30, xX1_passNight_31, xX1_passNight_32, xX1_passNight_33, xX1_passNight_34, xX1_passNight_37, xX1_passNight_38, xX1_passNight_39, xX1_passNight_42, xX1_passNight_45, xX1_passNight_46, xX1_passNight_47, xX1_passNight_50, xX1_passNight_53, xX1_passNight_54, xX1_passNight_55, xX1_passNight_58, xX1_passNight_59, xX1_passNight_62, xX1_passNight_63, xX1_passNight_64, xX1_passNight_67, xX1_passNight_69, xX1_passNight_70, xX1_passNight_73, xX1_passNight_74, xX1_passNight_75, xX1_passNight_76, xX1_passNight_78, xX1_passNight_79, xX1_passNight_80, xX1_passNight_81, xX1_passNight_84, xX1_passNight_85, xX1_passNight_86, xX1_passNight_89, xX1_passNight_90, xX1_passNight_93, xX1_passNight_94, xX1_passNight_95, xX1_passNight_97, xX1_passNight_98, xX1_passNight_101, xX1_passNight_102, xX1_passNight_105, xX1_passNight_108, Bool.false_eq_true, if_true, if_false, kl_i, kl_a, kl_s, kl_u, kl_l, okS_nil, okS_cons, cat_i, cat_a, cat_s, cat_l, Nat.reduceAdd, Nat.reduceLeDiff, Nat.reduceSub, Nat.sub_zero, Nat.sub_self, Nat.zero_add, Nat.le_refl, Nat.zero_le, List.length_cons, List.length_nil, true_and, and_true, true_or, or_true, eq_self, forall_const, true_implies, not_true_eq_false, not_false_eq_true, false_implies, implies_true, false_and, and_false, false_or, or_false, nI1]
      exact ih (v + 1) _ _ _ (by omega) hQ
    have hn : nxt N v < 7 := by unfold nxt; split <;> omega
    have hb := fun e3 => l_pnBody (e3 := e3) (e4 := e4) (f := f) hp0 (by omega) hn hc
    simp only [xX1_passNight_0, xX1_passNight_1, xX1_passNight_2, xX1_passNight_3, xX1_passNight_4, xX1_passNight_7, xX1_passNight_10, xX1_passNight_11, xX1_passNight_12, xX1_passNight_13, xX1_passNight_14, xX1_passNight_17, xX1_passNight_20, xX1_passNight_21, xX1_passNight_22, xX1_passNight_23, xX1_passNight_26, xX1_passNight_28, xX1_passNight_29, xX1_passNight_30, xX1_passNight_31, xX1_passNight_32, xX1_passNight_33, xX1_passNight_34, xX1_passNight_37, xX1_passNight_38, xX1_passNight_39, xX1_passNight_42, xX1_passNight_45, xX1_passNight_46, xX1_passNight_47, xX1_passNight_50, xX1_passNight_53, xX1_passNight_54, xX1_passNight_55, xX1_passNight_58, xX1_passNight_59, xX1_passNight_62, xX1_passNight_63, xX1_passNight_64, xX1_passNight_67, xX1_passNight_69, xX1_passNight_70, xX1_passNight_73, xX1_passNight_74, xX1_passNight_75, xX1_passNight_76, xX1_passNight_78, xX1_passNight_79, xX1_passNight_80, xX1_passNight_81, xX1_passNight_84, xX1_passNight_85, xX1_passNight_86, xX1_passNight_89, xX1_passNight_90, xX1_passNight_93, xX1_passNight_94, xX1_passNight_95, xX1_passNight_97, xX1_passNight_98, xX1_passNight_101, xX1_passNight_102, xX1_passNight_105, xX1_passNight_108, Bool.false_eq_true, if_true, if_false, kl_i, kl_a, kl_s, kl_u, kl_l, okS_nil, okS_cons, cat_i, cat_a, cat_s, cat_l, Nat.reduceAdd, Nat.reduceLeDiff, Nat.reduceSub, Nat.sub_zero, Nat.sub_self, Nat.zero_add, Nat.le_refl, Nat.zero_le, List.length_cons, List.length_nil, true_and, and_true, true_or, or_true, eq_self, forall_const, true_implies, not_true_eq_false, not_false_eq_true, false_implies, implies_true, false_and, and_false, false_or, or_false, hO, r0, r1, r2, r3, r4, o1, o2, o3, o4, o5, l1, l2, l3, l4, l5, putP_0, putP_1, putP_2, putP_3, putP_4, putP_5, vputP_0, vputP_1, vputP_2, vputP_3, vputP_4, vputP_5, setR_setR, sr20, sr21, sr22, sr23, sr24, sr25, hN, c1, nI1]
    rw [ltN (by omega) (by omega)]
    refine ⟨fun hx => ?_, fun hx => ?_⟩
    · rw [nxt, if_pos hx] at hb
      exact hb _
    · rw [nxt, if_neg hx] at hb
      exact hb _
theorem t_passNight {K : Cx} {d : Nat} {σ : Sg} {m : Mm} {l : Ml} {p N : Nat} {dr : Int32} {q : Mm} {Q : Rt} (hp : isP σ p) (hN : q 0 8 = nI N) (h7 : N ≤ 7) (hQ : Q 0 σ (putP m p (setR q 2 (ngL N q dr 0 N (q 2)))) l) : CT K (d + 3) YX1_passNight [.ref p, .int dr] σ (putP m p q) l Q := by
  refine kX1_passNight ?_
  simp only [xX1_passNight_0, xX1_passNight_1, Bool.false_eq_true, if_true, if_false, kl_i, kl_a, kl_s, kl_u, kl_l, okS_nil, okS_cons, cat_i, cat_a, cat_s, cat_l, Nat.reduceAdd, Nat.reduceLeDiff, Nat.reduceSub, Nat.sub_zero, Nat.sub_self, Nat.zero_add, Nat.le_refl, Nat.zero_le, List.length_cons, List.length_nil, true_and, and_true, true_or, or_true, eq_self, forall_const, true_implies, not_true_eq_false, not_false_eq_true, false_implies, implies_true, false_and, and_false, false_or, or_false]
  have := l_pn (K := K) (d := d) (m := m) (l := l) (dr := dr) hp hN h7 N 0 (q 2) (.float 0) (.float 0) (by omega) hQ
  rw [setR_id] at this
  exact this
/-- a day by each: fills and lacks behind it, who lacked -/
def dyA (q : Mm) (rain : Int32) (v : Nat) (f : Nat → Int32) : Int32 := mnI (q 0 7) (f v + q 3 v + rain)
def dyD (q : Mm) (rain : Int32) (v : Nat) (f : Nat → Int32) : Int32 := mnI (q 4 v) (dyA q rain v f)
def dyL (q : Mm) (rain : Int32) : Nat → Nat → (Nat → Int32) → (Nat → Int32) → Int32 → (Nat → Int32) × (Nat → Int32) × Int32
  | _, 0, f, g, s => (f, g, s)
  | v, k + 1, f, g, s => dyL q rain (v + 1) k (upd f v (dyA q rain v f - dyD q rain v f)) (if dyD q rain v f < q 4 v then upd g v (g v + (q 4 v - dyD q rain v f)) else g) (if dyD q rain v f < q 4 v then s ||| (1 <<< (nI v &&& 31)) else s)
/-- a day's record: lacks, fills by day, fills by night, days -/
def dayQ (N : Nat) (q : Mm) (rain : Int32) : Mm :=
  setR (setR (setR q 5 (dyL q rain 0 N (q 2) (q 5) 0).2.1) 2 (ngL N q (1 <<< (nI N &&& 31) - 1) 0 N (dyL q rain 0 N (q 2) (q 5) 0).1)) 0 (upd (q 0) 9 (q 0 9 + 1))
def dayS (N : Nat) (q : Mm) (rain : Int32) : Int32 := (dyL q rain 0 N (q 2) (q 5) 0).2.2
theorem ngL_cong (N : Nat) {q q' : Mm} (dr : Int32) (h0 : q' 0 = q 0) (h1 : q' 1 = q 1) : ∀ (k v : Nat) (f : Nat → Int32), ngL N q' dr v k f = ngL N q dr v k f := by
  intro k
  induction k with
  | zero => intro v f; rfl
  | succ k ih =>
    intro v f
    simp only [ngL]
    rw [ih]
    congr 1
    simp only [ngG, h0, h1]
theorem l_pd {K : Cx} {d : Nat} {σ : Sg} {m : Mm} {l : Ml} {p N : Nat} {rain : Int32} {q : Mm} {Q : Rt} (hp : isP σ p) (hN : q 0 8 = nI N) (h7 : N ≤ 7) : ∀ (k v : Nat) (f g : Nat → Int32) (s : Int32) (e4 e5 : Value), v + k = N → (∀ e3 e4' e5', WX (tX1_passDay K (d + 3)) Q (101, [.ref p, .int rain, .int (dyL q rain v k f g s).2.2, e3, e4', e5'], [], (0, 0), σ, putP m p (setR (setR q 5 (dyL q rain v k f g s).2.1) 2 (dyL q rain v k f g s).1), l)) → WX (tX1_passDay K (d + 3)) Q (4, [.ref p, .int rain, .int s, .int (nI v), e4, e5], [], (0, 0), σ, putP m p (setR (setR q 5 g) 2 f), l) := by
  obtain ⟨hO, r0, r1, r2, r3, r4, o1, o2, o3, o4, o5, l1, l2, l3, l4, l5⟩ := hp
  intro k
  induction k with
  | zero =>
    intro v f g s e4 e5 hv hQ
    have c1 : (nI v < nI N) = False := by rw [ltN (by omega) (by omega)]; exact eq_false (by omega)
    have hcv := clN (v := v) (by omega)
    have hiv : True := trivial
    rw [xX1_passDay_4]
    simp only [xX1_passDay_0, xX1_passDay_1, xX1_passDay_2, xX1_passDay_3, xX1_passDay_5, xX1_passDay_6, xX1_passDay_9, xX1_passDay_12, xX1_passDay_13, xX1_passDay_16, xX1_passDay_17, xX1_passDay_20, xX1_passDay_21, xX1_passDay_22, xX1_passDay_23, xX1_passDay_26, xX1_passDay_27, xX1_passDay_28, xX1_passDay_29, xX1_passDay_30, xX1_passDay_31, xX1_passDay_34, xX1_passDay_36, xX1_passDay_37, xX1_passDay_40, xX1_passDay_41, xX1_passDay_42, xX1_passDay_44, xX1_passDay_47, xX1_passDay_49, xX1_passDay_50, xX1_passDay_53, xX1_passDay_54, xX1_passDay_56, xX1_passDay_58, xX1_passDay_59, xX1_passDay_60, xX1_passDay_62, xX1_passDay_63, xX1_passDay_66, xX1_passDay_67, xX1_passDay_68, xX1_passDay_71, xX1_passDay_72, xX1_passDay_75, xX1_passDay_76, xX1_passDay_77, xX1_passDay_78, xX1_passDay_79, xX1_passDay_82, xX1_passDay_83, xX1_passDay_84, xX1_passDay_86, xX1_passDay_87, xX1_passDay_88, xX1_passDay_89, xX1_passDay_90, xX1_passDay_91, xX1_passDay_92, xX1_passDay_93, xX1_passDay_94, xX1_passDay_95, xX1_passDay_98, xX1_passDay_102, xX1_passDay_103, xX1_passDay_104, xX1_passDay_107, xX1_passDay_108, xX1_passDay_109, xX1_passDay_110, xX1_passDay_113, xX1_passDay_114, xX1_passDay_115, xX1_passDay_118, xX1_passDay_119, xX1_passDay_120, xX1_passDay_123, xX1_passDay_124, Bool.false_eq_true, if_true, if_false, kl_i, kl_a, kl_s, kl_u, kl_l, okS_nil, okS_cons, cat_i, cat_a, cat_s, cat_l, Nat.reduceAdd, Nat.reduceLeDiff, Nat.reduceSub, Nat.sub_zero, Nat.sub_self, Nat.zero_add, Nat.le_refl, Nat.zero_le, List.length_cons, List.length_nil, true_and, and_true, true_or, or_true, eq_self, forall_const, true_implies, not_true_eq_false, not_false_eq_true, false_implies, implies_true, false_and, and_false, false_or, or_false, hO, r0, r1, r2, r3, r4, o1, o2, o3, o4, o5, l1, l2, l3, l4, l5, putP_0, putP_1, putP_2, putP_3, putP_4, putP_5, vputP_0, vputP_1, vputP_2, vputP_3, vputP_4, vputP_5, setR_setR, sr20, sr21, sr22, sr23, sr24, sr25, sr50, sr51, sr52, sr53, sr54, sr55, sc25, hN, hcv, hiv, mnI_f, c1]
    exact hQ _ _ _
  | succ k ih =>
    intro v f g s e4 e5 hv hQ
    have c1 : (nI v < nI N) = True := by rw [ltN (by omega) (by omega)]; exact eq_true (by omega)
    have hcv := clN (v := v) (by omega)
    have hiv := inN (v := v) (n := 7) (by omega) (by omega)
    have eA : mnI (q 0 7) (f v + q 3 v + rain) = dyA q rain v f := rfl
    have eD : mnI (q 4 v) (dyA q rain v f) = dyD q rain v f := rfl
    rw [xX1_passDay_4]
    simp only [xX1_passDay_0, xX1_passDay_1, xX1_passDay_2, xX1_passDay_3, xX1_passDay_5, xX1_passDay_6, xX1_passDay_9, xX1_passDay_12, xX1_passDay_13, xX1_passDay_16, xX1_passDay_17, xX1_passDay_20, xX1_passDay_21, xX1_passDay_22, xX1_passDay_23, xX1_passDay_26, xX1_passDay_27, xX1_passDay_28, xX1_passDay_29, xX1_passDay_30, xX1_passDay_31, xX1_passDay_34, xX1_passDay_36, xX1_passDay_37, xX1_passDay_40, xX1_passDay_41, xX1_passDay_42, xX1_passDay_44, xX1_passDay_47, xX1_passDay_49, xX1_passDay_50, xX1_passDay_53, xX1_passDay_54, xX1_passDay_56, xX1_passDay_58, xX1_passDay_59, xX1_passDay_60, xX1_passDay_62, xX1_passDay_63, xX1_passDay_66, xX1_passDay_67, xX1_passDay_68, xX1_passDay_71, xX1_passDay_72, xX1_passDay_75, xX1_passDay_76, xX1_passDay_77, xX1_passDay_78, xX1_passDay_79, xX1_passDay_82, xX1_passDay_83, xX1_passDay_84, xX1_passDay_86, xX1_passDay_87, xX1_passDay_88, xX1_passDay_89, xX1_passDay_90, xX1_passDay_91, xX1_passDay_92, xX1_passDay_93, xX1_passDay_94, xX1_passDay_95, xX1_passDay_98, xX1_passDay_102, xX1_passDay_103, xX1_passDay_104, xX1_passDay_107, xX1_passDay_108, xX1_passDay_109, xX1_passDay_110, xX1_passDay_113, xX1_passDay_114, xX1_passDay_115, xX1_passDay_118, xX1_passDay_119, xX1_passDay_120, xX1_passDay_123, xX1_passDay_124, Bool.false_eq_true, if_true, if_false, kl_i, kl_a, kl_s, kl_u, kl_l, okS_nil, okS_cons, cat_i, cat_a, cat_s, cat_l, Nat.reduceAdd, Nat.reduceLeDiff, Nat.reduceSub, Nat.sub_zero, Nat.sub_self, Nat.zero_add, Nat.le_refl, Nat.zero_le, List.length_cons, List.length_nil, true_and, and_true, true_or, or_true, eq_self, forall_const, true_implies, not_true_eq_false, not_false_eq_true, false_implies, implies_true, false_and, and_false, false_or, or_false, hO, r0, r1, r2, r3, r4, o1, o2, o3, o4, o5, l1, l2, l3, l4, l5, putP_0, putP_1, putP_2, putP_3, putP_4, putP_5, vputP_0, vputP_1, vputP_2, vputP_3, vputP_4, vputP_5, setR_setR, sr20, sr21, sr22, sr23, sr24, sr25, sr50, sr51, sr52, sr53, sr54, sr55, sc25, hN, hcv, hiv, mnI_f, c1, eA, eD]
    simp only [dyL] at hQ
    by_cases hl : dyD q rain v f < q 4 v
    · simp only [hl, Bool.false_eq_true, if_true, if_false, kl_i, kl_a, kl_s, kl_u, kl_l, okS_nil, okS_cons, cat_i, cat_a, cat_s, cat_l, Nat.reduceAdd, Nat.reduceLeDiff, Nat.reduceSub, Nat.sub_zero, Nat.sub_self, Nat.zero_add, Nat.le_refl, Nat.zero_le, List.length_cons, List.length_nil, true_and, and_true, true_or, or_true, eq_self, forall_const, true_implies, not_true_eq_false, not_false_eq_true, false_implies, implies_true, false_and, and_false, false_or, or_false, nI1] at hQ ⊢
      have := ih (v + 1) _ _ _ (.int (dyA q rain v f)) (.int (dyD q rain v f)) (by omega) hQ
      exact this
    · simp only [hl, Bool.false_eq_true, if_true, if_false, kl_i, kl_a, kl_s, kl_u, kl_l, okS_nil, okS_cons, cat_i, cat_a, cat_s, cat_l, Nat.reduceAdd, Nat.reduceLeDiff, Nat.reduceSub, Nat.sub_zero, Nat.sub_self, Nat.zero_add, Nat.le_refl, Nat.zero_le, List.length_cons, List.length_nil, true_and, and_true, true_or, or_true, eq_self, forall_const, true_implies, not_true_eq_false, not_false_eq_true, false_implies, implies_true, false_and, and_false, false_or, or_false, nI1] at hQ ⊢
      have := ih (v + 1) _ _ _ (.int (dyA q rain v f)) (.int (dyD q rain v f)) (by omega) hQ
      exact this
theorem t_passDay {K : Cx} {d : Nat} {σ : Sg} {m : Mm} {l : Ml} {p N : Nat} {rain : Int32} {q : Mm} {Q : Rt} (hp : isP σ p) (hN : q 0 8 = nI N) (h7 : N ≤ 7) (hQ : Q (dayS N q rain) σ (putP m p (dayQ N q rain)) l) : CT K (d + 4) YX1_passDay [.ref p, .int rain] σ (putP m p q) l Q := by
  have hp0 := hp
  refine kX1_passDay ?_
  simp only [xX1_passDay_0, xX1_passDay_1, xX1_passDay_2, xX1_passDay_3, Bool.false_eq_true, if_true, if_false, kl_i, kl_a, kl_s, kl_u, kl_l, okS_nil, okS_cons, cat_i, cat_a, cat_s, cat_l, Nat.reduceAdd, Nat.reduceLeDiff, Nat.reduceSub, Nat.sub_zero, Nat.sub_self, Nat.zero_add, Nat.le_refl, Nat.zero_le, List.length_cons, List.length_nil, true_and, and_true, true_or, or_true, eq_self, forall_const, true_implies, not_true_eq_false, not_false_eq_true, false_implies, implies_true, false_and, and_false, false_or, or_false]
  have := l_pd (K := K) (d := d) (σ := σ) (m := m) (l := l) (rain := rain) (q := q) (Q := Q) hp hN h7 N 0 (q 2) (q 5) 0 (.float 0) (.float 0) (by omega)
  rw [setR_id, setR_id] at this
  refine this ?_
  intro e3 e4 e5
  obtain ⟨hO, r0, r1, r2, r3, r4, o1, o2, o3, o4, o5, l1, l2, l3, l4, l5⟩ := hp
  simp only [xX1_passDay_0, xX1_passDay_1, xX1_passDay_2, xX1_passDay_3, xX1_passDay_5, xX1_passDay_6, xX1_passDay_9, xX1_passDay_12, xX1_passDay_13, xX1_passDay_16, xX1_passDay_17, xX1_passDay_20, xX1_passDay_21, xX1_passDay_22, xX1_passDay_23, xX1_passDay_26, xX1_passDay_27, xX1_passDay_28, xX1_passDay_29, xX1_passDay_30, xX1_passDay_31, xX1_passDay_34, xX1_passDay_36, xX1_passDay_37, xX1_passDay_40, xX1_passDay_41, xX1_passDay_42, xX1_passDay_44, xX1_passDay_47, xX1_passDay_49, xX1_passDay_50, xX1_passDay_53, xX1_passDay_54, xX1_passDay_56, xX1_passDay_58, xX1_passDay_59, xX1_passDay_60, xX1_passDay_62, xX1_passDay_63, xX1_passDay_66, xX1_passDay_67, xX1_passDay_68, xX1_passDay_71, xX1_passDay_72, xX1_passDay_75, xX1_passDay_76, xX1_passDay_77, xX1_passDay_78, xX1_passDay_79, xX1_passDay_82, xX1_passDay_83, xX1_passDay_84, xX1_passDay_86, xX1_passDay_87, xX1_passDay_88, xX1_passDay_89, xX1_passDay_90, xX1_passDay_91, xX1_passDay_92, xX1_passDay_93, xX1_passDay_94, xX1_passDay_95, xX1_passDay_98, xX1_passDay_101, xX1_passDay_102, xX1_passDay_103, xX1_passDay_104, xX1_passDay_107, xX1_passDay_108, xX1_passDay_109, xX1_passDay_110, xX1_passDay_113, xX1_passDay_114, xX1_passDay_115, xX1_passDay_118, xX1_passDay_119, xX1_passDay_120, xX1_passDay_123, xX1_passDay_124, Bool.false_eq_true, if_true, if_false, kl_i, kl_a, kl_s, kl_u, kl_l, okS_nil, okS_cons, cat_i, cat_a, cat_s, cat_l, Nat.reduceAdd, Nat.reduceLeDiff, Nat.reduceSub, Nat.sub_zero, Nat.sub_self, Nat.zero_add, Nat.le_refl, Nat.zero_le, List.length_cons, List.length_nil, true_and, and_true, true_or, or_true, eq_self, forall_const, true_implies, not_true_eq_false, not_false_eq_true, false_implies, implies_true, false_and, and_false, false_or, or_false, hO, r0, r1, r2, r3, r4, o1, o2, o3, o4, o5, l1, l2, l3, l4, l5, putP_0, putP_1, putP_2, putP_3, putP_4, putP_5, vputP_0, vputP_1, vputP_2, vputP_3, vputP_4, vputP_5, setR_setR, sr20, sr21, sr22, sr23, sr24, sr25, sr50, sr51, sr52, sr53, sr54, sr55, hN]
  refine t_passNight (N := N) hp0 (by simp only [sr20, sr50]; exact hN) h7 ?_
  simp only [xX1_passDay_0, xX1_passDay_1, xX1_passDay_2, xX1_passDay_3, xX1_passDay_5, xX1_passDay_6, xX1_passDay_9, xX1_passDay_12, xX1_passDay_13, xX1_passDay_16, xX1_passDay_17, xX1_passDay_20, xX1_passDay_21, xX1_passDay_22, xX1_passDay_23, xX1_passDay_26, xX1_passDay_27, xX1_passDay_28, xX1_passDay_29, xX1_passDay_30, xX1_passDay_31, xX1_passDay_34, xX1_passDay_36, xX1_passDay_37, xX1_passDay_40, xX1_passDay_41, xX1_passDay_42, xX1_passDay_44, xX1_passDay_47, xX1_passDay_49, xX1_passDay_50, xX1_passDay_53, xX1_passDay_54, xX1_passDay_56, xX1_passDay_58, xX1_passDay_59, xX1_passDay_60, xX1_passDay_62, xX1_passDay_63, xX1_passDay_66, xX1_passDay_67, xX1_passDay_68, xX1_passDay_71, xX1_passDay_72, xX1_passDay_75, xX1_passDay_76, xX1_passDay_77, xX1_passDay_78, xX1_passDay_79, xX1_passDay_82, xX1_passDay_83, xX1_passDay_84, xX1_passDay_86, xX1_passDay_87, xX1_passDay_88, xX1_passDay_89, xX1_passDay_90, xX1_passDay_91, xX1_passDay_92, xX1_passDay_93, xX1_passDay_94, xX1_passDay_95, xX1_passDay_98, xX1_passDay_101, xX1_passDay_102, xX1_passDay_103, xX1_passDay_104, xX1_passDay_107, xX1_passDay_108, xX1_passDay_109, xX1_passDay_110, xX1_passDay_113, xX1_passDay_114, xX1_passDay_115, xX1_passDay_118, xX1_passDay_119, xX1_passDay_120, xX1_passDay_123, xX1_passDay_124, Bool.false_eq_true, if_true, if_false, kl_i, kl_a, kl_s, kl_u, kl_l, okS_nil, okS_cons, cat_i, cat_a, cat_s, cat_l, Nat.reduceAdd, Nat.reduceLeDiff, Nat.reduceSub, Nat.sub_zero, Nat.sub_self, Nat.zero_add, Nat.le_refl, Nat.zero_le, List.length_cons, List.length_nil, true_and, and_true, true_or, or_true, eq_self, forall_const, true_implies, not_true_eq_false, not_false_eq_true, false_implies, implies_true, false_and, and_false, false_or, or_false, hO, r0, r1, r2, r3, r4, o1, o2, o3, o4, o5, l1, l2, l3, l4, l5, putP_0, putP_1, putP_2, putP_3, putP_4, putP_5, vputP_0, vputP_1, vputP_2, vputP_3, vputP_4, vputP_5, setR_setR, sr20, sr21, sr22, sr23, sr24, sr25, sr50, sr51, sr52, sr53, sr54, sr55, hN]
  rw [ngL_cong N (q := q) _ (by simp only [sr20, sr50]) (by simp only [sr21, sr51])]
  exact hQ
theorem dayQ_8 (N : Nat) (q : Mm) (r : Int32) : dayQ N q r 0 8 = q 0 8 := rfl
def dysQ (N : Nat) : Nat → Mm → Mm
  | 0, q => q
  | c + 1, q => dysQ N c (dayQ N q 0)
def fsL (N : Nat) : Nat → Nat → Mm → Int32 × Mm
  | 0, _, q => (-1000000, q)
  | k + 1, d, q => if dayS N q 0 = 0 then fsL N k (d + 1) (dayQ N q 0) else (nI d, dayQ N q 0)
theorem l_pds {K : Cx} {d : Nat} {σ : Sg} {m : Mm} {l : Ml} {p N n : Nat} {Q : Rt} (hp : isP σ p) (h7 : N ≤ 7) (hn : n ≤ 100) : ∀ (k v : Nat) (q : Mm), v + k = n → q 0 8 = nI N → Q 0 σ (putP m p (dysQ N k q)) l → WX (tX1_passDays K (d + 4)) Q (2, [.ref p, .int (nI n), .int (nI v)], [], (0, 0), σ, putP m p q, l) := by
  intro k
  induction k with
  | zero =>
    intro v q hv hN hQ
    have c1 : (nI v < nI n) = False := by rw [ltN (by omega) (by omega)]; exact eq_false (by omega)
    rw [xX1_passDays_2]
    simp only [xX1_passDays_0, xX1_passDays_1, xX1_passDays_3, xX1_passDays_4, xX1_passDays_7, xX1_passDays_8, xX1_passDays_9, xX1_passDays_12, xX1_passDays_13, xX1_passDays_16, xX1_passDays_19, Bool.false_eq_true, if_true, if_false, kl_i, kl_a, kl_s, kl_u, kl_l, okS_nil, okS_cons, cat_i, cat_a, cat_s, cat_l, Nat.reduceAdd, Nat.reduceLeDiff, Nat.reduceSub, Nat.sub_zero, Nat.sub_self, Nat.zero_add, Nat.le_refl, Nat.zero_le, List.length_cons, List.length_nil, true_and, and_true, true_or, or_true, eq_self, forall_const, true_implies, not_true_eq_false, not_false_eq_true, false_implies, implies_true, false_and, and_false, false_or, or_false, c1]
    exact hQ
  | succ k ih =>
    intro v q hv hN hQ
    have c1 : (nI v < nI n) = True := by rw [ltN (by omega) (by omega)]; exact eq_true (by omega)
    rw [xX1_passDays_2]
    simp only [xX1_passDays_0, xX1_passDays_1, xX1_passDays_3, xX1_passDays_4, xX1_passDays_7, xX1_passDays_8, xX1_passDays_9, xX1_passDays_12, xX1_passDays_13, xX1_passDays_16, xX1_passDays_19, Bool.false_eq_true, if_true, if_false, kl_i, kl_a, kl_s, kl_u, kl_l, okS_nil, okS_cons, cat_i, cat_a, cat_s, cat_l, Nat.reduceAdd, Nat.reduceLeDiff, Nat.reduceSub, Nat.sub_zero, Nat.sub_self, Nat.zero_add, Nat.le_refl, Nat.zero_le, List.length_cons, List.length_nil, true_and, and_true, true_or, or_true, eq_self, forall_const, true_implies, not_true_eq_false, not_false_eq_true, false_implies, implies_true, false_and, and_false, false_or, or_false, c1, hp.1]
    refine t_passDay hp hN h7 ?_
    simp only [xX1_passDays_0, xX1_passDays_1, xX1_passDays_3, xX1_passDays_4, xX1_passDays_7, xX1_passDays_8, xX1_passDays_9, xX1_passDays_12, xX1_passDays_13, xX1_passDays_16, xX1_passDays_19, Bool.false_eq_true, if_true, if_false, kl_i, kl_a, kl_s, kl_u, kl_l, okS_nil, okS_cons, cat_i, cat_a, cat_s, cat_l, Nat.reduceAdd, Nat.reduceLeDiff, Nat.reduceSub, Nat.sub_zero, Nat.sub_self, Nat.zero_add, Nat.le_refl, Nat.zero_le, List.length_cons, List.length_nil, true_and, and_true, true_or, or_true, eq_self, forall_const, true_implies, not_true_eq_false, not_false_eq_true, false_implies, implies_true, false_and, and_false, false_or, or_false, nI1]
    exact ih (v + 1) _ (by omega) (by rw [dayQ_8]; exact hN) hQ
theorem t_passDays {K : Cx} {d : Nat} {σ : Sg} {m : Mm} {l : Ml} {p N n : Nat} {q : Mm} {Q : Rt} (hp : isP σ p) (hN : q 0 8 = nI N) (h7 : N ≤ 7) (hn : n ≤ 100) (hQ : Q 0 σ (putP m p (dysQ N n q)) l) : CT K (d + 5) YX1_passDays [.ref p, .int (nI n)] σ (putP m p q) l Q := by
  refine kX1_passDays ?_
  simp only [xX1_passDays_0, xX1_passDays_1, Bool.false_eq_true, if_true, if_false, kl_i, kl_a, kl_s, kl_u, kl_l, okS_nil, okS_cons, cat_i, cat_a, cat_s, cat_l, Nat.reduceAdd, Nat.reduceLeDiff, Nat.reduceSub, Nat.sub_zero, Nat.sub_self, Nat.zero_add, Nat.le_refl, Nat.zero_le, List.length_cons, List.length_nil, true_and, and_true, true_or, or_true, eq_self, forall_const, true_implies, not_true_eq_false, not_false_eq_true, false_implies, implies_true, false_and, and_false, false_or, or_false]
  exact l_pds hp h7 hn n 0 q (by omega) hN hQ
theorem l_fl {K : Cx} {d : Nat} {σ : Sg} {m : Mm} {l : Ml} {p N n : Nat} {Q : Rt} (hp : isP σ p) (h7 : N ≤ 7) (hn : n ≤ 100) : ∀ (k v : Nat) (q : Mm), v + k = n → q 0 8 = nI N → Q (fsL N k v q).1 σ (putP m p (fsL N k v q).2) l → WX (tX1_firstLack K (d + 4)) Q (2, [.ref p, .int (nI n), .int (nI v)], [], (0, 0), σ, putP m p q, l) := by
  intro k
  induction k with
  | zero =>
    intro v q hv hN hQ
    have c1 : (nI v < nI n) = False := by rw [ltN (by omega) (by omega)]; exact eq_false (by omega)
    rw [xX1_firstLack_2]
    simp only [xX1_firstLack_0, xX1_firstLack_1, xX1_firstLack_3, xX1_firstLack_4, xX1_firstLack_7, xX1_firstLack_8, xX1_firstLack_9, xX1_firstLack_12, xX1_firstLack_15, xX1_firstLack_16, xX1_firstLack_17, xX1_firstLack_20, xX1_firstLack_23, xX1_firstLack_25, Bool.false_eq_true, if_true, if_false, kl_i, kl_a, kl_s, kl_u, kl_l, okS_nil, okS_cons, cat_i, cat_a, cat_s, cat_l, Nat.reduceAdd, Nat.reduceLeDiff, Nat.reduceSub, Nat.sub_zero, Nat.sub_self, Nat.zero_add, Nat.le_refl, Nat.zero_le, List.length_cons, List.length_nil, true_and, and_true, true_or, or_true, eq_self, forall_const, true_implies, not_true_eq_false, not_false_eq_true, false_implies, implies_true, false_and, and_false, false_or, or_false, c1]
    exact hQ
  | succ k ih =>
    intro v q hv hN hQ
    have c1 : (nI v < nI n) = True := by rw [ltN (by omega) (by omega)]; exact eq_true (by omega)
    rw [xX1_firstLack_2]
    simp only [xX1_firstLack_0, xX1_firstLack_1, xX1_firstLack_3, xX1_firstLack_4, xX1_firstLack_7, xX1_firstLack_8, xX1_firstLack_9, xX1_firstLack_12, xX1_firstLack_15, xX1_firstLack_16, xX1_firstLack_17, xX1_firstLack_20, xX1_firstLack_23, xX1_firstLack_25, Bool.false_eq_true, if_true, if_false, kl_i, kl_a, kl_s, kl_u, kl_l, okS_nil, okS_cons, cat_i, cat_a, cat_s, cat_l, Nat.reduceAdd, Nat.reduceLeDiff, Nat.reduceSub, Nat.sub_zero, Nat.sub_self, Nat.zero_add, Nat.le_refl, Nat.zero_le, List.length_cons, List.length_nil, true_and, and_true, true_or, or_true, eq_self, forall_const, true_implies, not_true_eq_false, not_false_eq_true, false_implies, implies_true, false_and, and_false, false_or, or_false, c1, hp.1]
    refine t_passDay hp hN h7 ?_
    simp only [fsL] at hQ
    by_cases h0 : dayS N q 0 = 0
    · simp only [xX1_firstLack_0, xX1_firstLack_1, xX1_firstLack_3, xX1_firstLack_4, xX1_firstLack_7, xX1_firstLack_8, xX1_firstLack_9, xX1_firstLack_12, xX1_firstLack_15, xX1_firstLack_16, xX1_firstLack_17, xX1_firstLack_20, xX1_firstLack_23, xX1_firstLack_25, Bool.false_eq_true, if_true, if_false, kl_i, kl_a, kl_s, kl_u, kl_l, okS_nil, okS_cons, cat_i, cat_a, cat_s, cat_l, Nat.reduceAdd, Nat.reduceLeDiff, Nat.reduceSub, Nat.sub_zero, Nat.sub_self, Nat.zero_add, Nat.le_refl, Nat.zero_le, List.length_cons, List.length_nil, true_and, and_true, true_or, or_true, eq_self, forall_const, true_implies, not_true_eq_false, not_false_eq_true, false_implies, implies_true, false_and, and_false, false_or, or_false, nI1, h0] at hQ ⊢
      exact ih (v + 1) _ (by omega) (by rw [dayQ_8]; exact hN) hQ
    · simp only [xX1_firstLack_0, xX1_firstLack_1, xX1_firstLack_3, xX1_firstLack_4, xX1_firstLack_7, xX1_firstLack_8, xX1_firstLack_9, xX1_firstLack_12, xX1_firstLack_15, xX1_firstLack_16, xX1_firstLack_17, xX1_firstLack_20, xX1_firstLack_23, xX1_firstLack_25, Bool.false_eq_true, if_true, if_false, kl_i, kl_a, kl_s, kl_u, kl_l, okS_nil, okS_cons, cat_i, cat_a, cat_s, cat_l, Nat.reduceAdd, Nat.reduceLeDiff, Nat.reduceSub, Nat.sub_zero, Nat.sub_self, Nat.zero_add, Nat.le_refl, Nat.zero_le, List.length_cons, List.length_nil, true_and, and_true, true_or, or_true, eq_self, forall_const, true_implies, not_true_eq_false, not_false_eq_true, false_implies, implies_true, false_and, and_false, false_or, or_false, nI1, h0] at hQ ⊢
      exact hQ
theorem t_firstLack {K : Cx} {d : Nat} {σ : Sg} {m : Mm} {l : Ml} {p N n : Nat} {q : Mm} {Q : Rt} (hp : isP σ p) (hN : q 0 8 = nI N) (h7 : N ≤ 7) (hn : n ≤ 100) (hQ : Q (fsL N n 0 q).1 σ (putP m p (fsL N n 0 q).2) l) : CT K (d + 5) YX1_firstLack [.ref p, .int (nI n)] σ (putP m p q) l Q := by
  refine kX1_firstLack ?_
  simp only [xX1_firstLack_0, xX1_firstLack_1, Bool.false_eq_true, if_true, if_false, kl_i, kl_a, kl_s, kl_u, kl_l, okS_nil, okS_cons, cat_i, cat_a, cat_s, cat_l, Nat.reduceAdd, Nat.reduceLeDiff, Nat.reduceSub, Nat.sub_zero, Nat.sub_self, Nat.zero_add, Nat.le_refl, Nat.zero_le, List.length_cons, List.length_nil, true_and, and_true, true_or, or_true, eq_self, forall_const, true_implies, not_true_eq_false, not_false_eq_true, false_implies, implies_true, false_and, and_false, false_or, or_false]
  exact l_fl hp h7 hn n 0 q (by omega) hN hQ
/-- a plain taken over: its own fields, seven places of each row -/
def takeL (q s : Mm) (v : Nat) : Mm := fun j k => if (j = 0 ∧ 5 ≤ k ∧ k ≤ 10) ∨ (1 ≤ j ∧ j ≤ 5 ∧ k < v) then s j k else q j k
def takeQ (q s : Mm) : Mm := takeL q s 7
theorem getP_0 (m : Mm) (p : Nat) : getP m p 0 = m p := rfl
theorem takeL_u (q s : Mm) (v : Nat) {j : Nat} (h1 : 1 ≤ j) (h5 : j ≤ 5) : upd (takeL q s v j) v (s j v) = takeL q s (v + 1) j := by
  funext k
  simp only [upd, takeL]
  by_cases hk : k = v
  · subst hk
    rw [if_pos rfl, if_pos (Or.inr ⟨h1, h5, by omega⟩)]
  · rw [if_neg hk]
    have e : (k < v + 1) = (k < v) := propext ⟨fun h => by omega, fun h => by omega⟩
    simp only [e]
theorem takeL_v (q s : Mm) (v w : Nat) {j : Nat} (h : j = 0 ∨ 5 < j) : takeL q s v j = takeL q s w j := by
  funext k
  simp only [takeL]
  rcases h with h | h
  · subst h
    have e : ∀ v, ((1 ≤ 0 ∧ 0 ≤ 5 ∧ k < v) = False) := fun v => eq_false (by omega)
    simp only [e]
  · rw [if_neg (by omega), if_neg (by omega)]
theorem takeL_s (q s : Mm) (v : Nat) : setR (setR (setR (setR (setR (takeL q s v) 1 (upd (takeL q s v 1) v (s 1 v))) 2 (upd (takeL q s v 2) v (s 2 v))) 3 (upd (takeL q s v 3) v (s 3 v))) 4 (upd (takeL q s v 4) v (s 4 v))) 5 (upd (takeL q s v 5) v (s 5 v)) = takeL q s (v + 1) := by
  funext j
  by_cases h5 : j = 5
  · subst h5; rw [setR_s]; exact takeL_u q s v (by omega) (by omega)
  rw [setR_n _ _ h5]
  by_cases h4 : j = 4
  · subst h4; rw [setR_s]; exact takeL_u q s v (by omega) (by omega)
  rw [setR_n _ _ h4]
  by_cases h3 : j = 3
  · subst h3; rw [setR_s]; exact takeL_u q s v (by omega) (by omega)
  rw [setR_n _ _ h3]
  by_cases h2 : j = 2
  · subst h2; rw [setR_s]; exact takeL_u q s v (by omega) (by omega)
  rw [setR_n _ _ h2]
  by_cases h1 : j = 1
  · subst h1; rw [setR_s]; exact takeL_u q s v (by omega) (by omega)
  rw [setR_n _ _ h1]
  exact takeL_v q s v (v + 1) (by omega)
theorem take0 (q s : Mm) : setR q 0 (upd (upd (upd (upd (upd (upd (q 0) 5 (s 0 5)) 6 (s 0 6)) 7 (s 0 7)) 8 (s 0 8)) 9 (s 0 9)) 10 (s 0 10)) = takeL q s 0 := by
  funext j
  by_cases h0 : j = 0
  · subst h0
    rw [setR_s]
    funext k
    simp only [upd, takeL]
    by_cases k10 : k = 10
    · subst k10; rfl
    by_cases k9 : k = 9
    · subst k9; rfl
    by_cases k8 : k = 8
    · subst k8; rfl
    by_cases k7 : k = 7
    · subst k7; rfl
    by_cases k6 : k = 6
    · subst k6; rfl
    by_cases k5 : k = 5
    · subst k5; rfl
    rw [if_neg k10, if_neg k9, if_neg k8, if_neg k7, if_neg k6, if_neg k5, if_neg (by omega)]
  · rw [setR_n _ _ h0]
    funext k
    simp only [takeL]
    rw [if_neg (by omega)]
theorem putP_o (m : Mm) {p b : Nat} (q : Mm) (h : b < p ∨ p + 6 ≤ b) : putP m p q b = m b := by
  simp only [putP]
  rw [if_neg (by omega)]
theorem l_take {K : Cx} {d : Nat} {σ : Sg} {m : Mm} {l : Ml} {p o : Nat} {q : Mm} {Q : Rt} (hp : isP σ p) (ho : isP σ o) (hd : p + 6 ≤ o ∨ o + 6 ≤ p) : ∀ (k v : Nat), v + k = 7 → Q 0 σ (putP m p (takeQ q (getP m o))) l → WX (tX1_take K d) Q (50, [.ref p, .ref o, .int (nI v)], [], (0, 0), σ, putP m p (takeL q (getP m o) v), l) := by
  obtain ⟨hO, r0, r1, r2, r3, r4, o1, o2, o3, o4, o5, l1, l2, l3, l4, l5⟩ := hp
  obtain ⟨hO', r0', r1', r2', r3', r4', o1', o2', o3', o4', o5', l1', l2', l3', l4', l5'⟩ := ho
  intro k
  induction k with
  | zero =>
    intro v hv hQ
    obtain rfl : v = 7 := by omega
    have c1 : (nI 7 < 7) = False := eq_false (by decide)
    rw [xX1_take_50]
    simp only [xX1_take_0, xX1_take_1, xX1_take_2, xX1_take_5, xX1_take_8, xX1_take_9, xX1_take_10, xX1_take_13, xX1_take_16, xX1_take_17, xX1_take_18, xX1_take_21, xX1_take_24, xX1_take_25, xX1_take_26, xX1_take_29, xX1_take_32, xX1_take_33, xX1_take_34, xX1_take_37, xX1_take_40, xX1_take_41, xX1_take_42, xX1_take_45, xX1_take_48, xX1_take_49, xX1_take_51, xX1_take_53, xX1_take_56, xX1_take_57, xX1_take_60, xX1_take_61, xX1_take_62, xX1_take_65, xX1_take_66, xX1_take_67, xX1_take_68, xX1_take_69, xX1_take_72, xX1_take_73, xX1_take_74, xX1_take_77, xX1_take_78, xX1_take_79, xX1_take_80, xX1_take_81, xX1_take_84, xX1_take_85, xX1_take_86, xX1_take_89, xX1_take_90, xX1_take_91, xX1_take_92, xX1_take_93, xX1_take_96, xX1_take_97, xX1_take_98, xX1_take_101, xX1_take_102, xX1_take_103, xX1_take_104, xX1_take_105, xX1_take_108, xX1_take_109, xX1_take_110, xX1_take_113, xX1_take_114, xX1_take_115, xX1_take_116, xX1_take_119, xX1_take_122, Bool.false_eq_true, if_true, if_false, kl_i, kl_a, kl_s, kl_u, kl_l, okS_nil, okS_cons, cat_i, cat_a, cat_s, cat_l, Nat.reduceAdd, Nat.reduceLeDiff, Nat.reduceSub, Nat.sub_zero, Nat.sub_self, Nat.zero_add, Nat.le_refl, Nat.zero_le, List.length_cons, List.length_nil, true_and, and_true, true_or, or_true, eq_self, forall_const, true_implies, not_true_eq_false, not_false_eq_true, false_implies, implies_true, false_and, and_false, false_or, or_false, c1]
    exact hQ
  | succ k ih =>
    intro v hv hQ
    have c1 : (nI v < 7) = True := by
      have := ltN (a := v) (b := 7) (by omega) (by omega)
      exact this.trans (eq_true (by omega))
    have hcv := clN (v := v) (by omega)
    have hiv := inN (v := v) (n := 7) (by omega) (by omega)
    have w0 := fun q => putP_o m (p := p) (b := o) q (by omega)
    have w1 := fun q => putP_o m (p := p) (b := o + 1) q (by omega)
    have w2 := fun q => putP_o m (p := p) (b := o + 2) q (by omega)
    have w3 := fun q => putP_o m (p := p) (b := o + 3) q (by omega)
    have w4 := fun q => putP_o m (p := p) (b := o + 4) q (by omega)
    have w5 := fun q => putP_o m (p := p) (b := o + 5) q (by omega)
    rw [xX1_take_50]
    simp only [xX1_take_0, xX1_take_1, xX1_take_2, xX1_take_5, xX1_take_8, xX1_take_9, xX1_take_10, xX1_take_13, xX1_take_16, xX1_take_17, xX1_take_18, xX1_take_21, xX1_take_24, xX1_take_25, xX1_take_26, xX1_take_29, xX1_take_32, xX1_take_33, xX1_take_34, xX1_take_37, xX1_take_40, xX1_take_41, xX1_take_42, xX1_take_45, xX1_take_48, xX1_take_49, xX1_take_51, xX1_take_53, xX1_take_56, xX1_take_57, xX1_take_60, xX1_take_61, xX1_take_62, xX1_take_65, xX1_take_66, xX1_take_67, xX1_take_68, xX1_take_69, xX1_take_72, xX1_take_73, xX1_take_74, xX1_take_77, xX1_take_78, xX1_take_79, xX1_take_80, xX1_take_81, xX1_take_84, xX1_take_85, xX1_take_86, xX1_take_89, xX1_take_90, xX1_take_91, xX1_take_92, xX1_take_93, xX1_take_96, xX1_take_97, xX1_take_98, xX1_take_101, xX1_take_102, xX1_take_103, xX1_take_104, xX1_take_105, xX1_take_108, xX1_take_109, xX1_take_110, xX1_take_113, xX1_take_114, xX1_take_115, xX1_take_116, xX1_take_119, xX1_take_122, Bool.false_eq_true, if_true, if_false, kl_i, kl_a, kl_s, kl_u, kl_l, okS_nil, okS_cons, cat_i, cat_a, cat_s, cat_l, Nat.reduceAdd, Nat.reduceLeDiff, Nat.reduceSub, Nat.sub_zero, Nat.sub_self, Nat.zero_add, Nat.le_refl, Nat.zero_le, List.length_cons, List.length_nil, true_and, and_true, true_or, or_true, eq_self, forall_const, true_implies, not_true_eq_false, not_false_eq_true, false_implies, implies_true, false_and, and_false, false_or, or_false, c1, hO, r0, r1, r2, r3, r4, o1, o2, o3, o4, o5, l1, l2, l3, l4, l5, hO', r0', r1', r2', r3', r4', o1', o2', o3', o4', o5', l1', l2', l3', l4', l5', hcv, hiv, w0, w1, w2, w3, w4, w5, vputP_0, vputP_1, vputP_2, vputP_3, vputP_4, vputP_5, putP_0, putP_1, putP_2, putP_3, putP_4, putP_5, sr10, sr11, sr12, sr13, sr14, sr15, sr20, sr21, sr22, sr23, sr24, sr25, sr30, sr31, sr32, sr33, sr34, sr35, sr40, sr41, sr42, sr43, sr44, sr45, sr50, sr51, sr52, sr53, sr54, sr55, nI1]
    have := ih (v + 1) (by omega) hQ
    rw [← takeL_s] at this
    exact this
theorem t_take {K : Cx} {d : Nat} {σ : Sg} {m : Mm} {l : Ml} {p o : Nat} {Q : Rt} (hp : isP σ p) (ho : isP σ o) (hd : p + 6 ≤ o ∨ o + 6 ≤ p) (hz : m o 5 = 0 ∨ m o 5 = 1) (hQ : Q 0 σ (putP m p (takeQ (getP m p) (getP m o))) l) : CT K (d + 1) YX1_take [.ref p, .ref o] σ m l Q := by
  have hp0 := hp
  have ho0 := ho
  obtain ⟨hO, r0, r1, r2, r3, r4, o1, o2, o3, o4, o5, l1, l2, l3, l4, l5⟩ := hp
  obtain ⟨hO', r0', r1', r2', r3', r4', o1', o2', o3', o4', o5', l1', l2', l3', l4', l5'⟩ := ho
  refine kX1_take ?_
  have key := l_take (K := K) (d := d) (m := m) (l := l) (q := getP m p) hp0 ho0 hd 7 0 (by omega) hQ
  have w0 := fun q => putP_o m (p := p) (b := o) q (by omega)
  rw [← putP_get m p]
  simp only [xX1_take_0, xX1_take_1, xX1_take_2, xX1_take_5, xX1_take_8, xX1_take_9, xX1_take_10, xX1_take_13, xX1_take_16, xX1_take_17, xX1_take_18, xX1_take_21, xX1_take_24, xX1_take_25, xX1_take_26, xX1_take_29, xX1_take_32, xX1_take_33, xX1_take_34, xX1_take_37, xX1_take_40, xX1_take_41, xX1_take_42, xX1_take_45, xX1_take_48, xX1_take_49, xX1_take_51, xX1_take_53, xX1_take_56, xX1_take_57, xX1_take_60, xX1_take_61, xX1_take_62, xX1_take_65, xX1_take_66, xX1_take_67, xX1_take_68, xX1_take_69, xX1_take_72, xX1_take_73, xX1_take_74, xX1_take_77, xX1_take_78, xX1_take_79, xX1_take_80, xX1_take_81, xX1_take_84, xX1_take_85, xX1_take_86, xX1_take_89, xX1_take_90, xX1_take_91, xX1_take_92, xX1_take_93, xX1_take_96, xX1_take_97, xX1_take_98, xX1_take_101, xX1_take_102, xX1_take_103, xX1_take_104, xX1_take_105, xX1_take_108, xX1_take_109, xX1_take_110, xX1_take_113, xX1_take_114, xX1_take_115, xX1_take_116, xX1_take_119, xX1_take_122, Bool.false_eq_true, if_true, if_false, kl_i, kl_a, kl_s, kl_u, kl_l, okS_nil, okS_cons, cat_i, cat_a, cat_s, cat_l, Nat.reduceAdd, Nat.reduceLeDiff, Nat.reduceSub, Nat.sub_zero, Nat.sub_self, Nat.zero_add, Nat.le_refl, Nat.zero_le, List.length_cons, List.length_nil, true_and, and_true, true_or, or_true, eq_self, forall_const, true_implies, not_true_eq_false, not_false_eq_true, false_implies, implies_true, false_and, and_false, false_or, or_false, hO, hO', vputP_0, putP_0, w0, hz]
  have e := take0 (getP m p) (getP m o)
  simp only [getP_0] at e
  simp only [sr00, setR_setR, getP_0]
  rw [e]
  exact key
theorem l_forget {K : Cx} {d : Nat} {σ : Sg} {m : Mm} {l : Ml} {p : Nat} {q : Mm} {Q : Rt} (hp : isP σ p) : ∀ (k v : Nat), v + k = 7 → Q 0 σ (putP m p (setR q 5 (fun k => if k < 7 then 0 else q 5 k))) l → WX (tX1_forgetLacks K d) Q (2, [.ref p, .int (nI v)], [], (0, 0), σ, putP m p (setR q 5 (fun k => if k < v then 0 else q 5 k)), l) := by
  obtain ⟨hO, r0, r1, r2, r3, r4, o1, o2, o3, o4, o5, l1, l2, l3, l4, l5⟩ := hp
  intro k
  induction k with
  | zero =>
    intro v hv hQ
    obtain rfl : v = 7 := by omega
    have c1 : (nI 7 < 7) = False := eq_false (by decide)
    rw [xX1_forgetLacks_2]
    simp only [xX1_forgetLacks_0, xX1_forgetLacks_1, xX1_forgetLacks_3, xX1_forgetLacks_5, xX1_forgetLacks_8, xX1_forgetLacks_9, xX1_forgetLacks_12, xX1_forgetLacks_13, xX1_forgetLacks_14, xX1_forgetLacks_15, xX1_forgetLacks_18, xX1_forgetLacks_21, Bool.false_eq_true, if_true, if_false, kl_i, kl_a, kl_s, kl_u, kl_l, okS_nil, okS_cons, cat_i, cat_a, cat_s, cat_l, Nat.reduceAdd, Nat.reduceLeDiff, Nat.reduceSub, Nat.sub_zero, Nat.sub_self, Nat.zero_add, Nat.le_refl, Nat.zero_le, List.length_cons, List.length_nil, true_and, and_true, true_or, or_true, eq_self, forall_const, true_implies, not_true_eq_false, not_false_eq_true, false_implies, implies_true, false_and, and_false, false_or, or_false, c1]
    exact hQ
  | succ k ih =>
    intro v hv hQ
    have c1 : (nI v < 7) = True := by
      have := ltN (a := v) (b := 7) (by omega) (by omega)
      exact this.trans (eq_true (by omega))
    have hcv := clN (v := v) (by omega)
    have hiv := inN (v := v) (n := 7) (by omega) (by omega)
    rw [xX1_forgetLacks_2]
    simp only [xX1_forgetLacks_0, xX1_forgetLacks_1, xX1_forgetLacks_3, xX1_forgetLacks_5, xX1_forgetLacks_8, xX1_forgetLacks_9, xX1_forgetLacks_12, xX1_forgetLacks_13, xX1_forgetLacks_14, xX1_forgetLacks_15, xX1_forgetLacks_18, xX1_forgetLacks_21, Bool.false_eq_true, if_true, if_false, kl_i, kl_a, kl_s, kl_u, kl_l, okS_nil, okS_cons, cat_i, cat_a, cat_s, cat_l, Nat.reduceAdd, Nat.reduceLeDiff, Nat.reduceSub, Nat.sub_zero, Nat.sub_self, Nat.zero_add, Nat.le_refl, Nat.zero_le, List.length_cons, List.length_nil, true_and, and_true, true_or, or_true, eq_self, forall_const, true_implies, not_true_eq_false, not_false_eq_true, false_implies, implies_true, false_and, and_false, false_or, or_false, c1, hO, r0, r1, r2, r3, r4, o1, o2, o3, o4, o5, l1, l2, l3, l4, l5, hcv, hiv, putP_0, putP_1, putP_2, putP_3, putP_4, putP_5, vputP_0, vputP_1, vputP_2, vputP_3, vputP_4, vputP_5, setR_setR, sr55, nI1]
    have := ih (v + 1) (by omega) hQ
    have e : upd (fun k => if k < v then 0 else q 5 k) v 0 = (fun k => if k < v + 1 then 0 else q 5 k) := by
      funext k
      simp only [upd]
      by_cases h : k = v
      · subst h; rw [if_pos rfl, if_pos (by omega)]
      · rw [if_neg h]
        by_cases h2 : k < v
        · rw [if_pos h2, if_pos (by omega)]
        · rw [if_neg h2, if_neg (by omega)]
    rw [e]
    exact this
/-- lacks forgotten -/
def zl (q : Mm) : Mm := setR q 5 (fun k => if k < 7 then 0 else q 5 k)
theorem t_forgetLacks {K : Cx} {d : Nat} {σ : Sg} {m : Mm} {l : Ml} {p : Nat} {q : Mm} {Q : Rt} (hp : isP σ p) (hQ : Q 0 σ (putP m p (zl q)) l) : CT K (d + 1) YX1_forgetLacks [.ref p] σ (putP m p q) l Q := by
  refine kX1_forgetLacks ?_
  simp only [xX1_forgetLacks_0, xX1_forgetLacks_1, Bool.false_eq_true, if_true, if_false, kl_i, kl_a, kl_s, kl_u, kl_l, okS_nil, okS_cons, cat_i, cat_a, cat_s, cat_l, Nat.reduceAdd, Nat.reduceLeDiff, Nat.reduceSub, Nat.sub_zero, Nat.sub_self, Nat.zero_add, Nat.le_refl, Nat.zero_le, List.length_cons, List.length_nil, true_and, and_true, true_or, or_true, eq_self, forall_const, true_implies, not_true_eq_false, not_false_eq_true, false_implies, implies_true, false_and, and_false, false_or, or_false]
  have := l_forget (K := K) (d := d) (m := m) (l := l) hp 7 0 (by omega) hQ
  have e : setR q 5 (fun k => if k < 0 then 0 else q 5 k) = q := by
    simp only [Nat.not_lt_zero, if_false]
    exact setR_id q 5
  rw [e] at this
  exact this
def beginQ (q : Mm) (night room : Int32) : Mm := zl (setR q 0 (upd (upd (upd (upd (upd (upd (q 0) 5 1) 6 night) 7 room) 8 0) 9 0) 10 0))
theorem t_begin {K : Cx} {d : Nat} {σ : Sg} {m : Mm} {l : Ml} {p : Nat} {a b : Int32} {q : Mm} {Q : Rt} (hp : isP σ p) (hQ : Q 0 σ (putP m p (beginQ q a b)) l) : CT K (d + 2) YX1_begin [.ref p, .int a, .int b] σ (putP m p q) l Q := by
  refine kX1_begin ?_
  simp only [xX1_begin_0, xX1_begin_1, xX1_begin_2, xX1_begin_5, xX1_begin_6, xX1_begin_7, xX1_begin_10, xX1_begin_11, xX1_begin_12, xX1_begin_15, xX1_begin_16, xX1_begin_17, xX1_begin_20, xX1_begin_21, xX1_begin_22, xX1_begin_25, xX1_begin_26, xX1_begin_27, xX1_begin_30, xX1_begin_31, xX1_begin_34, Bool.false_eq_true, if_true, if_false, kl_i, kl_a, kl_s, kl_u, kl_l, okS_nil, okS_cons, cat_i, cat_a, cat_s, cat_l, Nat.reduceAdd, Nat.reduceLeDiff, Nat.reduceSub, Nat.sub_zero, Nat.sub_self, Nat.zero_add, Nat.le_refl, Nat.zero_le, List.length_cons, List.length_nil, true_and, and_true, true_or, or_true, eq_self, forall_const, true_implies, not_true_eq_false, not_false_eq_true, false_implies, implies_true, false_and, and_false, false_or, or_false, hp.1, vputP_0, sr00, setR_setR, i10]
  refine t_forgetLacks hp ?_
  exact hQ
/-- the same fills, of the first N -/
def sameF (f g : Nat → Int32) : Nat → Nat → Bool
  | _, 0 => true
  | v, k + 1 => if f v = g v then sameF f g (v + 1) k else false
theorem l_hasF {K : Cx} {d : Nat} {σ : Sg} {m : Mm} {l : Ml} {p o N : Nat} {Q : Rt} (hp : isP σ p) (ho : isP σ o) (hN : m p 8 = nI N) (h7 : N ≤ 7) : ∀ (k v : Nat), v + k = N → Q (if sameF (m (p + 2)) (m (o + 2)) v k then 1 else 0) σ m l → WX (tX1_hasFillsOf K d) Q (2, [.ref p, .ref o, .int (nI v)], [], (0, 0), σ, m, l) := by
  obtain ⟨hO, r0, r1, r2, r3, r4, o1, o2, o3, o4, o5, l1, l2, l3, l4, l5⟩ := hp
  obtain ⟨hO', r0', r1', r2', r3', r4', o1', o2', o3', o4', o5', l1', l2', l3', l4', l5'⟩ := ho
  intro k
  induction k with
  | zero =>
    intro v hv hQ
    have c1 : (nI v < nI N) = False := by rw [ltN (by omega) (by omega)]; exact eq_false (by omega)
    rw [xX1_hasFillsOf_2]
    simp only [xX1_hasFillsOf_0, xX1_hasFillsOf_1, xX1_hasFillsOf_3, xX1_hasFillsOf_4, xX1_hasFillsOf_7, xX1_hasFillsOf_10, xX1_hasFillsOf_11, xX1_hasFillsOf_14, xX1_hasFillsOf_15, xX1_hasFillsOf_16, xX1_hasFillsOf_17, xX1_hasFillsOf_20, xX1_hasFillsOf_21, xX1_hasFillsOf_22, xX1_hasFillsOf_25, xX1_hasFillsOf_26, xX1_hasFillsOf_27, xX1_hasFillsOf_30, xX1_hasFillsOf_33, xX1_hasFillsOf_34, Bool.false_eq_true, if_true, if_false, kl_i, kl_a, kl_s, kl_u, kl_l, okS_nil, okS_cons, cat_i, cat_a, cat_s, cat_l, Nat.reduceAdd, Nat.reduceLeDiff, Nat.reduceSub, Nat.sub_zero, Nat.sub_self, Nat.zero_add, Nat.le_refl, Nat.zero_le, List.length_cons, List.length_nil, true_and, and_true, true_or, or_true, eq_self, forall_const, true_implies, not_true_eq_false, not_false_eq_true, false_implies, implies_true, false_and, and_false, false_or, or_false, c1, hO, hN]
    exact hQ
  | succ k ih =>
    intro v hv hQ
    have c1 : (nI v < nI N) = True := by rw [ltN (by omega) (by omega)]; exact eq_true (by omega)
    have hcv := clN (v := v) (by omega)
    have hiv := inN (v := v) (n := 7) (by omega) (by omega)
    rw [xX1_hasFillsOf_2]
    simp only [xX1_hasFillsOf_0, xX1_hasFillsOf_1, xX1_hasFillsOf_3, xX1_hasFillsOf_4, xX1_hasFillsOf_7, xX1_hasFillsOf_10, xX1_hasFillsOf_11, xX1_hasFillsOf_14, xX1_hasFillsOf_15, xX1_hasFillsOf_16, xX1_hasFillsOf_17, xX1_hasFillsOf_20, xX1_hasFillsOf_21, xX1_hasFillsOf_22, xX1_hasFillsOf_25, xX1_hasFillsOf_26, xX1_hasFillsOf_27, xX1_hasFillsOf_30, xX1_hasFillsOf_33, xX1_hasFillsOf_34, Bool.false_eq_true, if_true, if_false, kl_i, kl_a, kl_s, kl_u, kl_l, okS_nil, okS_cons, cat_i, cat_a, cat_s, cat_l, Nat.reduceAdd, Nat.reduceLeDiff, Nat.reduceSub, Nat.sub_zero, Nat.sub_self, Nat.zero_add, Nat.le_refl, Nat.zero_le, List.length_cons, List.length_nil, true_and, and_true, true_or, or_true, eq_self, forall_const, true_implies, not_true_eq_false, not_false_eq_true, false_implies, implies_true, false_and, and_false, false_or, or_false, c1, hO, r0, r1, r2, r3, r4, o1, o2, o3, o4, o5, l1, l2, l3, l4, l5, hN, hO', r1', o2', l2', hcv, hiv, nI1]
    simp only [sameF] at hQ
    by_cases h : m (p + 2) v = m (o + 2) v
    · simp only [h, Bool.false_eq_true, if_true, if_false, kl_i, kl_a, kl_s, kl_u, kl_l, okS_nil, okS_cons, cat_i, cat_a, cat_s, cat_l, Nat.reduceAdd, Nat.reduceLeDiff, Nat.reduceSub, Nat.sub_zero, Nat.sub_self, Nat.zero_add, Nat.le_refl, Nat.zero_le, List.length_cons, List.length_nil, true_and, and_true, true_or, or_true, eq_self, forall_const, true_implies, not_true_eq_false, not_false_eq_true, false_implies, implies_true, false_and, and_false, false_or, or_false] at hQ ⊢
      exact ih (v + 1) (by omega) hQ
    · simp only [h, Bool.false_eq_true, if_true, if_false, kl_i, kl_a, kl_s, kl_u, kl_l, okS_nil, okS_cons, cat_i, cat_a, cat_s, cat_l, Nat.reduceAdd, Nat.reduceLeDiff, Nat.reduceSub, Nat.sub_zero, Nat.sub_self, Nat.zero_add, Nat.le_refl, Nat.zero_le, List.length_cons, List.length_nil, true_and, and_true, true_or, or_true, eq_self, forall_const, true_implies, not_true_eq_false, not_false_eq_true, false_implies, implies_true, false_and, and_false, false_or, or_false] at hQ ⊢
      exact hQ
theorem t_hasFillsOf {K : Cx} {d : Nat} {σ : Sg} {m : Mm} {l : Ml} {p o N : Nat} {Q : Rt} (hp : isP σ p) (ho : isP σ o) (hN : m p 8 = nI N) (h7 : N ≤ 7) (hQ : Q (if sameF (m (p + 2)) (m (o + 2)) 0 N then 1 else 0) σ m l) : CT K (d + 1) YX1_hasFillsOf [.ref p, .ref o] σ m l Q := by
  refine kX1_hasFillsOf ?_
  simp only [xX1_hasFillsOf_0, xX1_hasFillsOf_1, Bool.false_eq_true, if_true, if_false, kl_i, kl_a, kl_s, kl_u, kl_l, okS_nil, okS_cons, cat_i, cat_a, cat_s, cat_l, Nat.reduceAdd, Nat.reduceLeDiff, Nat.reduceSub, Nat.sub_zero, Nat.sub_self, Nat.zero_add, Nat.le_refl, Nat.zero_le, List.length_cons, List.length_nil, true_and, and_true, true_or, or_true, eq_self, forall_const, true_implies, not_true_eq_false, not_false_eq_true, false_implies, implies_true, false_and, and_false, false_or, or_false]
  exact l_hasF hp ho hN h7 N 0 (by omega) hQ
/-- a sum over the villages -/
def smF (f : Nat → Int32) : Nat → Nat → Int32 → Int32
  | _, 0, s => s
  | v, k + 1, s => smF f (v + 1) k (s + f v)
theorem l_suM {K : Cx} {d : Nat} {σ : Sg} {m : Mm} {l : Ml} {p a N : Nat} {Q : Rt} (hp : isO σ p 1) (ha : isO σ a 100) (hl : ln σ a = 7) (hN : m p 8 = nI N) (h7 : N ≤ 7) : ∀ (k v : Nat) (s : Int32), v + k = N → Q (smF (m a) v k s) σ m l → WX (tX1_sum K d) Q (4, [.ref p, .ref a, .int s, .int (nI v)], [], (0, 0), σ, m, l) := by
  intro k
  induction k with
  | zero =>
    intro v s hv hQ
    have c1 : (nI v < nI N) = False := by rw [ltN (by omega) (by omega)]; exact eq_false (by omega)
    rw [xX1_sum_4]
    simp only [xX1_sum_0, xX1_sum_1, xX1_sum_2, xX1_sum_3, xX1_sum_5, xX1_sum_6, xX1_sum_9, xX1_sum_12, xX1_sum_13, xX1_sum_14, xX1_sum_15, xX1_sum_16, xX1_sum_17, xX1_sum_18, xX1_sum_21, xX1_sum_24, xX1_sum_25, Bool.false_eq_true, if_true, if_false, kl_i, kl_a, kl_s, kl_u, kl_l, okS_nil, okS_cons, cat_i, cat_a, cat_s, cat_l, Nat.reduceAdd, Nat.reduceLeDiff, Nat.reduceSub, Nat.sub_zero, Nat.sub_self, Nat.zero_add, Nat.le_refl, Nat.zero_le, List.length_cons, List.length_nil, true_and, and_true, true_or, or_true, eq_self, forall_const, true_implies, not_true_eq_false, not_false_eq_true, false_implies, implies_true, false_and, and_false, false_or, or_false, c1, hp, hN]
    exact hQ
  | succ k ih =>
    intro v s hv hQ
    have c1 : (nI v < nI N) = True := by rw [ltN (by omega) (by omega)]; exact eq_true (by omega)
    have hcv := clN (v := v) (by omega)
    have hiv := inN (v := v) (n := 7) (by omega) (by omega)
    rw [xX1_sum_4]
    simp only [xX1_sum_0, xX1_sum_1, xX1_sum_2, xX1_sum_3, xX1_sum_5, xX1_sum_6, xX1_sum_9, xX1_sum_12, xX1_sum_13, xX1_sum_14, xX1_sum_15, xX1_sum_16, xX1_sum_17, xX1_sum_18, xX1_sum_21, xX1_sum_24, xX1_sum_25, Bool.false_eq_true, if_true, if_false, kl_i, kl_a, kl_s, kl_u, kl_l, okS_nil, okS_cons, cat_i, cat_a, cat_s, cat_l, Nat.reduceAdd, Nat.reduceLeDiff, Nat.reduceSub, Nat.sub_zero, Nat.sub_self, Nat.zero_add, Nat.le_refl, Nat.zero_le, List.length_cons, List.length_nil, true_and, and_true, true_or, or_true, eq_self, forall_const, true_implies, not_true_eq_false, not_false_eq_true, false_implies, implies_true, false_and, and_false, false_or, or_false, c1, hp, ha, hl, hN, hcv, hiv, nI1]
    exact ih (v + 1) _ (by omega) hQ
theorem t_sum {K : Cx} {d : Nat} {σ : Sg} {m : Mm} {l : Ml} {p a N : Nat} {Q : Rt} (hp : isO σ p 1) (ha : isO σ a 100) (hl : ln σ a = 7) (hN : m p 8 = nI N) (h7 : N ≤ 7) (hQ : Q (smF (m a) 0 N 0) σ m l) : CT K (d + 1) YX1_sum [.ref p, .ref a] σ m l Q := by
  refine kX1_sum ?_
  simp only [xX1_sum_0, xX1_sum_1, xX1_sum_2, xX1_sum_3, Bool.false_eq_true, if_true, if_false, kl_i, kl_a, kl_s, kl_u, kl_l, okS_nil, okS_cons, cat_i, cat_a, cat_s, cat_l, Nat.reduceAdd, Nat.reduceLeDiff, Nat.reduceSub, Nat.sub_zero, Nat.sub_self, Nat.zero_add, Nat.le_refl, Nat.zero_le, List.length_cons, List.length_nil, true_and, and_true, true_or, or_true, eq_self, forall_const, true_implies, not_true_eq_false, not_false_eq_true, false_implies, implies_true, false_and, and_false, false_or, or_false]
  exact l_suM hp ha hl hN h7 N 0 0 (by omega) hQ
