/-! THE LAW: one call after another, on both sides -/
def lwQ : Rt := fun r _ _ _ => r = 1
theorem ia1 (p : Nat) : nI p + 1 = nI (p + 1) := nI1 p
theorem ia2 (p : Nat) : nI p + 2 = nI (p + 2) := nIk p 2
theorem ia3 (p : Nat) : nI p + 3 = nI (p + 3) := nIk p 3
theorem ia4 (p : Nat) : nI p + 4 = nI (p + 4) := nIk p 4
theorem ia5 (p : Nat) : nI p + 5 = nI (p + 5) := nIk p 5
theorem ia6 (p : Nat) : nI p + 6 = nI (p + 6) := nIk p 6
theorem w_row {K : Cx} {σ : Sg} {m : Mm} {l : Ml} {p : Nat} {b1 b2 : Nat} (hw : WF σ) (h : RR m) (hp : p + 6 ≤ xL K) (hL : xL K ≤ 3072) (hK : ∀ m' l', RR m' → WX (tL_law K 12) lwQ (994, [.retAddr 2000, .ref 0, .ref 199, .int (nI p)], [], (b1, b2), σ, m', l')) : WX (tL_law K 12) lwQ (160, [.retAddr 2000, .ref 0, .ref 199, .int (nI p)], [], (b1, b2), σ, m, l) := by
  have v1 := inN (v := p + 1) (n := xL K) (by omega) (by omega)
  have v2 := inN (v := p + 2) (n := xL K) (by omega) (by omega)
  have v3 := inN (v := p + 3) (n := xL K) (by omega) (by omega)
  have v4 := inN (v := p + 4) (n := xL K) (by omega) (by omega)
  have v5 := inN (v := p + 5) (n := xL K) (by omega) (by omega)
  have h5 := hw.1.1
  have h6 := hw.2.2.2.2.2.1.1
  simp only [xL_law_160, xL_law_161, xL_law_162, xL_law_163, xL_law_164, xL_law_165, xL_law_166, xL_law_167, xL_law_168, xL_law_169, xL_law_170, xL_law_171, xL_law_172, xL_law_173, xL_law_174, xL_law_175, xL_law_176, xL_law_179, xL_law_180, xL_law_181, xL_law_182, xL_law_183, xL_law_184, xL_law_185, xL_law_186, xL_law_187, xL_law_188, xL_law_189, xL_law_190, xL_law_191, xL_law_192, xL_law_193, xL_law_194, xL_law_195, xL_law_198, xL_law_201, xL_law_202, Bool.false_eq_true, if_true, if_false, kl_i, kl_a, kl_s, kl_u, kl_l, okS_nil, okS_cons, cat_i, cat_a, cat_s, cat_l, Nat.reduceAdd, Nat.reduceLeDiff, Nat.reduceSub, Nat.sub_zero, Nat.sub_self, Nat.zero_add, Nat.le_refl, Nat.zero_le, List.length_cons, List.length_nil, true_and, and_true, true_or, or_true, eq_self, forall_const, true_implies, not_true_eq_false, not_false_eq_true, false_implies, implies_true, false_and, and_false, false_or, or_false, ia1, ia2, ia3, ia4, ia5, v1, v2, v3, v4, v5, h5]
  refine (p_row hw _ _ _ m l h).mono (Nat.le_refl _) (fun r σ1 m1 l1 hq => ?_)
  obtain ⟨e1, hc⟩ := hq
  subst e1
  refine ⟨h6, hc.mono (Nat.le_refl _) (fun r' σ2 m2 l2 hq2 => ?_)⟩
  obtain ⟨e2, e3, hR⟩ := hq2
  subst e2 e3
  exact ⟨fun _ => hK _ _ hR, fun g => absurd rfl g⟩
theorem w_set {K : Cx} {σ : Sg} {m : Mm} {l : Ml} {p : Nat} {b1 b2 : Nat} (hw : WF σ) (h : RR m) (hp : p + 6 ≤ xL K) (hL : xL K ≤ 3072) (hK : ∀ m' l', RR m' → WX (tL_law K 12) lwQ (994, [.retAddr 2000, .ref 0, .ref 199, .int (nI p)], [], (b1, b2), σ, m', l')) : WX (tL_law K 12) lwQ (203, [.retAddr 2000, .ref 0, .ref 199, .int (nI p)], [], (b1, b2), σ, m, l) := by
  have v1 := inN (v := p + 1) (n := xL K) (by omega) (by omega)
  have v2 := inN (v := p + 2) (n := xL K) (by omega) (by omega)
  have v3 := inN (v := p + 3) (n := xL K) (by omega) (by omega)
  have v4 := inN (v := p + 4) (n := xL K) (by omega) (by omega)
  have v5 := inN (v := p + 5) (n := xL K) (by omega) (by omega)
  have h5 := hw.1.1
  have h6 := hw.2.2.2.2.2.1.1
  simp only [xL_law_203, xL_law_204, xL_law_205, xL_law_206, xL_law_207, xL_law_208, xL_law_209, xL_law_210, xL_law_211, xL_law_212, xL_law_213, xL_law_214, xL_law_215, xL_law_216, xL_law_217, xL_law_218, xL_law_219, xL_law_222, xL_law_223, xL_law_224, xL_law_225, xL_law_226, xL_law_227, xL_law_228, xL_law_229, xL_law_230, xL_law_231, xL_law_232, xL_law_233, xL_law_234, xL_law_235, xL_law_236, xL_law_237, xL_law_238, xL_law_241, xL_law_244, xL_law_245, Bool.false_eq_true, if_true, if_false, kl_i, kl_a, kl_s, kl_u, kl_l, okS_nil, okS_cons, cat_i, cat_a, cat_s, cat_l, Nat.reduceAdd, Nat.reduceLeDiff, Nat.reduceSub, Nat.sub_zero, Nat.sub_self, Nat.zero_add, Nat.le_refl, Nat.zero_le, List.length_cons, List.length_nil, true_and, and_true, true_or, or_true, eq_self, forall_const, true_implies, not_true_eq_false, not_false_eq_true, false_implies, implies_true, false_and, and_false, false_or, or_false, ia1, ia2, ia3, ia4, ia5, v1, v2, v3, v4, v5, h5]
  refine (p_set hw _ _ _ m l h).mono (Nat.le_refl _) (fun r σ1 m1 l1 hq => ?_)
  obtain ⟨e1, hc⟩ := hq
  subst e1
  refine ⟨h6, hc.mono (Nat.le_refl _) (fun r' σ2 m2 l2 hq2 => ?_)⟩
  obtain ⟨e2, e3, hR⟩ := hq2
  subst e2 e3
  exact ⟨fun _ => hK _ _ hR, fun g => absurd rfl g⟩
theorem w_copy {K : Cx} {σ : Sg} {m : Mm} {l : Ml} {p : Nat} {b1 b2 : Nat} (hw : WF σ) (h : RR m) (hp : p + 6 ≤ xL K) (hL : xL K ≤ 3072) (hK : ∀ m' l', RR m' → WX (tL_law K 12) lwQ (994, [.retAddr 2000, .ref 0, .ref 199, .int (nI p)], [], (b1, b2), σ, m', l')) : WX (tL_law K 12) lwQ (246, [.retAddr 2000, .ref 0, .ref 199, .int (nI p)], [], (b1, b2), σ, m, l) := by
  have v1 := inN (v := p + 1) (n := xL K) (by omega) (by omega)
  have v2 := inN (v := p + 2) (n := xL K) (by omega) (by omega)
  have v3 := inN (v := p + 3) (n := xL K) (by omega) (by omega)
  have v4 := inN (v := p + 4) (n := xL K) (by omega) (by omega)
  have v5 := inN (v := p + 5) (n := xL K) (by omega) (by omega)
  have h5 := hw.1.1
  have h6 := hw.2.2.2.2.2.1.1
  simp only [xL_law_246, xL_law_247, xL_law_248, xL_law_249, xL_law_250, xL_law_251, xL_law_252, xL_law_253, xL_law_254, xL_law_255, xL_law_256, xL_law_257, xL_law_258, xL_law_259, xL_law_260, xL_law_261, xL_law_262, xL_law_263, xL_law_264, xL_law_265, xL_law_266, xL_law_267, xL_law_268, xL_law_269, xL_law_270, xL_law_271, xL_law_272, xL_law_275, xL_law_276, xL_law_277, xL_law_278, xL_law_279, xL_law_280, xL_law_281, xL_law_282, xL_law_283, xL_law_284, xL_law_285, xL_law_286, xL_law_287, xL_law_288, xL_law_289, xL_law_290, xL_law_291, xL_law_292, xL_law_293, xL_law_294, xL_law_295, xL_law_296, xL_law_297, xL_law_298, xL_law_299, xL_law_300, xL_law_301, xL_law_304, xL_law_307, xL_law_308, Bool.false_eq_true, if_true, if_false, kl_i, kl_a, kl_s, kl_u, kl_l, okS_nil, okS_cons, cat_i, cat_a, cat_s, cat_l, Nat.reduceAdd, Nat.reduceLeDiff, Nat.reduceSub, Nat.sub_zero, Nat.sub_self, Nat.zero_add, Nat.le_refl, Nat.zero_le, List.length_cons, List.length_nil, true_and, and_true, true_or, or_true, eq_self, forall_const, true_implies, not_true_eq_false, not_false_eq_true, false_implies, implies_true, false_and, and_false, false_or, or_false, ia1, ia2, ia3, ia4, ia5, v1, v2, v3, v4, v5, h5]
  refine (p_copy hw _ _ _ _ _ m l h).mono (Nat.le_refl _) (fun r σ1 m1 l1 hq => ?_)
  obtain ⟨e1, hc⟩ := hq
  subst e1
  refine ⟨h6, hc.mono (Nat.le_refl _) (fun r' σ2 m2 l2 hq2 => ?_)⟩
  obtain ⟨e2, e3, hR⟩ := hq2
  subst e2 e3
  exact ⟨fun _ => hK _ _ hR, fun g => absurd rfl g⟩
theorem w_drop {K : Cx} {σ : Sg} {m : Mm} {l : Ml} {p : Nat} {b1 b2 : Nat} (hw : WF σ) (h : RR m) (hp : p + 6 ≤ xL K) (hL : xL K ≤ 3072) (hK : ∀ m' l', RR m' → WX (tL_law K 12) lwQ (994, [.retAddr 2000, .ref 0, .ref 199, .int (nI p)], [], (b1, b2), σ, m', l')) : WX (tL_law K 12) lwQ (309, [.retAddr 2000, .ref 0, .ref 199, .int (nI p)], [], (b1, b2), σ, m, l) := by
  have v1 := inN (v := p + 1) (n := xL K) (by omega) (by omega)
  have v2 := inN (v := p + 2) (n := xL K) (by omega) (by omega)
  have v3 := inN (v := p + 3) (n := xL K) (by omega) (by omega)
  have v4 := inN (v := p + 4) (n := xL K) (by omega) (by omega)
  have v5 := inN (v := p + 5) (n := xL K) (by omega) (by omega)
  have h5 := hw.1.1
  have h6 := hw.2.2.2.2.2.1.1
  simp only [xL_law_309, xL_law_310, xL_law_311, xL_law_312, xL_law_313, xL_law_314, xL_law_315, xL_law_318, xL_law_319, xL_law_320, xL_law_321, xL_law_322, xL_law_323, xL_law_324, xL_law_327, xL_law_330, xL_law_331, Bool.false_eq_true, if_true, if_false, kl_i, kl_a, kl_s, kl_u, kl_l, okS_nil, okS_cons, cat_i, cat_a, cat_s, cat_l, Nat.reduceAdd, Nat.reduceLeDiff, Nat.reduceSub, Nat.sub_zero, Nat.sub_self, Nat.zero_add, Nat.le_refl, Nat.zero_le, List.length_cons, List.length_nil, true_and, and_true, true_or, or_true, eq_self, forall_const, true_implies, not_true_eq_false, not_false_eq_true, false_implies, implies_true, false_and, and_false, false_or, or_false, ia1, ia2, ia3, ia4, ia5, v1, v2, v3, v4, v5, h5]
  refine (p_drop hw _ m l h).mono (Nat.le_refl _) (fun r σ1 m1 l1 hq => ?_)
  obtain ⟨e1, hc⟩ := hq
  subst e1
  refine ⟨h6, hc.mono (Nat.le_refl _) (fun r' σ2 m2 l2 hq2 => ?_)⟩
  obtain ⟨e2, e3, hR⟩ := hq2
  subst e2 e3
  exact ⟨fun _ => hK _ _ hR, fun g => absurd rfl g⟩
theorem w_feed {K : Cx} {σ : Sg} {m : Mm} {l : Ml} {p : Nat} {b1 b2 : Nat} (hw : WF σ) (h : RR m) (hp : p + 6 ≤ xL K) (hL : xL K ≤ 3072) (hK : ∀ m' l', RR m' → WX (tL_law K 12) lwQ (994, [.retAddr 2000, .ref 0, .ref 199, .int (nI p)], [], (b1, b2), σ, m', l')) : WX (tL_law K 12) lwQ (332, [.retAddr 2000, .ref 0, .ref 199, .int (nI p)], [], (b1, b2), σ, m, l) := by
  have v1 := inN (v := p + 1) (n := xL K) (by omega) (by omega)
  have v2 := inN (v := p + 2) (n := xL K) (by omega) (by omega)
  have v3 := inN (v := p + 3) (n := xL K) (by omega) (by omega)
  have v4 := inN (v := p + 4) (n := xL K) (by omega) (by omega)
  have v5 := inN (v := p + 5) (n := xL K) (by omega) (by omega)
  have h5 := hw.1.1
  have h6 := hw.2.2.2.2.2.1.1
  simp only [xL_law_332, xL_law_333, xL_law_334, xL_law_335, xL_law_336, xL_law_337, xL_law_338, xL_law_339, xL_law_341, xL_law_342, xL_law_343, xL_law_344, xL_law_345, xL_law_346, xL_law_347, xL_law_348, xL_law_351, xL_law_352, xL_law_353, xL_law_354, xL_law_355, xL_law_356, xL_law_357, xL_law_358, xL_law_361, xL_law_362, xL_law_363, xL_law_364, xL_law_365, xL_law_366, xL_law_367, xL_law_368, xL_law_370, xL_law_371, xL_law_372, xL_law_373, xL_law_374, xL_law_375, xL_law_376, xL_law_377, xL_law_380, xL_law_381, xL_law_382, xL_law_383, xL_law_384, xL_law_385, xL_law_386, xL_law_387, xL_law_390, xL_law_393, xL_law_394, Bool.false_eq_true, if_true, if_false, kl_i, kl_a, kl_s, kl_u, kl_l, okS_nil, okS_cons, cat_i, cat_a, cat_s, cat_l, Nat.reduceAdd, Nat.reduceLeDiff, Nat.reduceSub, Nat.sub_zero, Nat.sub_self, Nat.zero_add, Nat.le_refl, Nat.zero_le, List.length_cons, List.length_nil, true_and, and_true, true_or, or_true, eq_self, forall_const, true_implies, not_true_eq_false, not_false_eq_true, false_implies, implies_true, false_and, and_false, false_or, or_false, ia1, ia2, ia3, ia4, ia5, v1, v2, v3, v4, v5, h5]
  refine (p_feed hw _ _ m l h).mono (Nat.le_refl _) (fun r σ1 m1 l1 hq => ?_)
  obtain ⟨e1, hc⟩ := hq
  subst e1
  refine ⟨h6, hc.mono (Nat.le_refl _) (fun r' σ2 m2 l2 hq2 => ?_)⟩
  obtain ⟨e2, e3, hR⟩ := hq2
  subst e2 e3
  exact ⟨fun _ => hK _ _ hR, fun g => absurd rfl g⟩
theorem w_plain {K : Cx} {σ : Sg} {m : Mm} {l : Ml} {p : Nat} {b1 b2 : Nat} (hw : WF σ) (h : RR m) (hp : p + 6 ≤ xL K) (hL : xL K ≤ 3072) (hK : ∀ m' l', RR m' → WX (tL_law K 12) lwQ (994, [.retAddr 2000, .ref 0, .ref 199, .int (nI p)], [], (b1, b2), σ, m', l')) : WX (tL_law K 12) lwQ (395, [.retAddr 2000, .ref 0, .ref 199, .int (nI p)], [], (b1, b2), σ, m, l) := by
  have v1 := inN (v := p + 1) (n := xL K) (by omega) (by omega)
  have v2 := inN (v := p + 2) (n := xL K) (by omega) (by omega)
  have v3 := inN (v := p + 3) (n := xL K) (by omega) (by omega)
  have v4 := inN (v := p + 4) (n := xL K) (by omega) (by omega)
  have v5 := inN (v := p + 5) (n := xL K) (by omega) (by omega)
  have h5 := hw.1.1
  have h6 := hw.2.2.2.2.2.1.1
  simp only [xL_law_395, xL_law_396, xL_law_399, xL_law_400, xL_law_403, xL_law_406, xL_law_407, Bool.false_eq_true, if_true, if_false, kl_i, kl_a, kl_s, kl_u, kl_l, okS_nil, okS_cons, cat_i, cat_a, cat_s, cat_l, Nat.reduceAdd, Nat.reduceLeDiff, Nat.reduceSub, Nat.sub_zero, Nat.sub_self, Nat.zero_add, Nat.le_refl, Nat.zero_le, List.length_cons, List.length_nil, true_and, and_true, true_or, or_true, eq_self, forall_const, true_implies, not_true_eq_false, not_false_eq_true, false_implies, implies_true, false_and, and_false, false_or, or_false, ia1, ia2, ia3, ia4, ia5, v1, v2, v3, v4, v5, h5]
  refine (p_plain hw m l h).mono (Nat.le_refl _) (fun r σ1 m1 l1 hq => ?_)
  obtain ⟨e1, hc⟩ := hq
  subst e1
  refine ⟨h6, hc.mono (Nat.le_refl _) (fun r' σ2 m2 l2 hq2 => ?_)⟩
  obtain ⟨e2, e3, hR⟩ := hq2
  subst e2 e3
  exact ⟨fun _ => hK _ _ hR, fun g => absurd rfl g⟩
theorem w_fault {K : Cx} {σ : Sg} {m : Mm} {l : Ml} {p : Nat} {b1 b2 : Nat} (hw : WF σ) (h : RR m) (hp : p + 6 ≤ xL K) (hL : xL K ≤ 3072) (hK : ∀ m' l', RR m' → WX (tL_law K 12) lwQ (994, [.retAddr 2000, .ref 0, .ref 199, .int (nI p)], [], (b1, b2), σ, m', l')) : WX (tL_law K 12) lwQ (408, [.retAddr 2000, .ref 0, .ref 199, .int (nI p)], [], (b1, b2), σ, m, l) := by
  have v1 := inN (v := p + 1) (n := xL K) (by omega) (by omega)
  have v2 := inN (v := p + 2) (n := xL K) (by omega) (by omega)
  have v3 := inN (v := p + 3) (n := xL K) (by omega) (by omega)
  have v4 := inN (v := p + 4) (n := xL K) (by omega) (by omega)
  have v5 := inN (v := p + 5) (n := xL K) (by omega) (by omega)
  have h5 := hw.1.1
  have h6 := hw.2.2.2.2.2.1.1
  simp only [xL_law_408, xL_law_409, xL_law_412, xL_law_413, xL_law_416, xL_law_419, xL_law_420, Bool.false_eq_true, if_true, if_false, kl_i, kl_a, kl_s, kl_u, kl_l, okS_nil, okS_cons, cat_i, cat_a, cat_s, cat_l, Nat.reduceAdd, Nat.reduceLeDiff, Nat.reduceSub, Nat.sub_zero, Nat.sub_self, Nat.zero_add, Nat.le_refl, Nat.zero_le, List.length_cons, List.length_nil, true_and, and_true, true_or, or_true, eq_self, forall_const, true_implies, not_true_eq_false, not_false_eq_true, false_implies, implies_true, false_and, and_false, false_or, or_false, ia1, ia2, ia3, ia4, ia5, v1, v2, v3, v4, v5, h5]
  refine (p_fault hw m l h).mono (Nat.le_refl _) (fun r σ1 m1 l1 hq => ?_)
  obtain ⟨e1, hc⟩ := hq
  subst e1
  refine ⟨h6, hc.mono (Nat.le_refl _) (fun r' σ2 m2 l2 hq2 => ?_)⟩
  obtain ⟨e2, e3, hR⟩ := hq2
  subst e2 e3
  exact ⟨fun _ => hK _ _ hR, fun g => absurd rfl g⟩
theorem w_day {K : Cx} {σ : Sg} {m : Mm} {l : Ml} {p : Nat} {b1 b2 : Nat} (hw : WF σ) (h : RR m) (hp : p + 6 ≤ xL K) (hL : xL K ≤ 3072) (hK : ∀ m' l', RR m' → WX (tL_law K 12) lwQ (994, [.retAddr 2000, .ref 0, .ref 199, .int (nI p)], [], (b1, b2), σ, m', l')) : WX (tL_law K 12) lwQ (421, [.retAddr 2000, .ref 0, .ref 199, .int (nI p)], [], (b1, b2), σ, m, l) := by
  have v1 := inN (v := p + 1) (n := xL K) (by omega) (by omega)
  have v2 := inN (v := p + 2) (n := xL K) (by omega) (by omega)
  have v3 := inN (v := p + 3) (n := xL K) (by omega) (by omega)
  have v4 := inN (v := p + 4) (n := xL K) (by omega) (by omega)
  have v5 := inN (v := p + 5) (n := xL K) (by omega) (by omega)
  have h5 := hw.1.1
  have h6 := hw.2.2.2.2.2.1.1
  simp only [xL_law_421, xL_law_422, xL_law_423, xL_law_424, xL_law_425, xL_law_426, xL_law_427, xL_law_430, xL_law_431, xL_law_432, xL_law_433, xL_law_434, xL_law_435, xL_law_436, xL_law_439, xL_law_442, xL_law_443, Bool.false_eq_true, if_true, if_false, kl_i, kl_a, kl_s, kl_u, kl_l, okS_nil, okS_cons, cat_i, cat_a, cat_s, cat_l, Nat.reduceAdd, Nat.reduceLeDiff, Nat.reduceSub, Nat.sub_zero, Nat.sub_self, Nat.zero_add, Nat.le_refl, Nat.zero_le, List.length_cons, List.length_nil, true_and, and_true, true_or, or_true, eq_self, forall_const, true_implies, not_true_eq_false, not_false_eq_true, false_implies, implies_true, false_and, and_false, false_or, or_false, ia1, ia2, ia3, ia4, ia5, v1, v2, v3, v4, v5, h5]
  refine (p_day hw _ m l h).mono (Nat.le_refl _) (fun r σ1 m1 l1 hq => ?_)
  obtain ⟨e1, hc⟩ := hq
  subst e1
  refine ⟨h6, hc.mono (Nat.le_refl _) (fun r' σ2 m2 l2 hq2 => ?_)⟩
  obtain ⟨e2, e3, hR⟩ := hq2
  subst e2 e3
  exact ⟨fun _ => hK _ _ hR, fun g => absurd rfl g⟩
theorem w_weather {K : Cx} {σ : Sg} {m : Mm} {l : Ml} {p : Nat} {b1 b2 : Nat} (hw : WF σ) (h : RR m) (hp : p + 6 ≤ xL K) (hL : xL K ≤ 3072) (hK : ∀ m' l', RR m' → WX (tL_law K 12) lwQ (994, [.retAddr 2000, .ref 0, .ref 199, .int (nI p)], [], (b1, b2), σ, m', l')) : WX (tL_law K 12) lwQ (444, [.retAddr 2000, .ref 0, .ref 199, .int (nI p)], [], (b1, b2), σ, m, l) := by
  have v1 := inN (v := p + 1) (n := xL K) (by omega) (by omega)
  have v2 := inN (v := p + 2) (n := xL K) (by omega) (by omega)
  have v3 := inN (v := p + 3) (n := xL K) (by omega) (by omega)
  have v4 := inN (v := p + 4) (n := xL K) (by omega) (by omega)
  have v5 := inN (v := p + 5) (n := xL K) (by omega) (by omega)
  have h5 := hw.1.1
  have h6 := hw.2.2.2.2.2.1.1
  simp only [xL_law_444, xL_law_445, xL_law_446, xL_law_447, xL_law_448, xL_law_449, xL_law_450, xL_law_453, xL_law_454, xL_law_455, xL_law_456, xL_law_457, xL_law_458, xL_law_459, xL_law_462, xL_law_465, xL_law_466, Bool.false_eq_true, if_true, if_false, kl_i, kl_a, kl_s, kl_u, kl_l, okS_nil, okS_cons, cat_i, cat_a, cat_s, cat_l, Nat.reduceAdd, Nat.reduceLeDiff, Nat.reduceSub, Nat.sub_zero, Nat.sub_self, Nat.zero_add, Nat.le_refl, Nat.zero_le, List.length_cons, List.length_nil, true_and, and_true, true_or, or_true, eq_self, forall_const, true_implies, not_true_eq_false, not_false_eq_true, false_implies, implies_true, false_and, and_false, false_or, or_false, ia1, ia2, ia3, ia4, ia5, v1, v2, v3, v4, v5, h5]
  refine (p_weather hw _ m l h).mono (Nat.le_refl _) (fun r σ1 m1 l1 hq => ?_)
  obtain ⟨e1, hc⟩ := hq
  subst e1
  refine ⟨h6, hc.mono (Nat.le_refl _) (fun r' σ2 m2 l2 hq2 => ?_)⟩
  obtain ⟨e2, e3, hR⟩ := hq2
  subst e2 e3
  exact ⟨fun _ => hK _ _ hR, fun g => absurd rfl g⟩
theorem w_guard {K : Cx} {σ : Sg} {m : Mm} {l : Ml} {p : Nat} {b1 b2 : Nat} (hw : WF σ) (h : RR m) (hp : p + 6 ≤ xL K) (hL : xL K ≤ 3072) (hK : ∀ m' l', RR m' → WX (tL_law K 12) lwQ (994, [.retAddr 2000, .ref 0, .ref 199, .int (nI p)], [], (b1, b2), σ, m', l')) : WX (tL_law K 12) lwQ (467, [.retAddr 2000, .ref 0, .ref 199, .int (nI p)], [], (b1, b2), σ, m, l) := by
  have v1 := inN (v := p + 1) (n := xL K) (by omega) (by omega)
  have v2 := inN (v := p + 2) (n := xL K) (by omega) (by omega)
  have v3 := inN (v := p + 3) (n := xL K) (by omega) (by omega)
  have v4 := inN (v := p + 4) (n := xL K) (by omega) (by omega)
  have v5 := inN (v := p + 5) (n := xL K) (by omega) (by omega)
  have h5 := hw.1.1
  have h6 := hw.2.2.2.2.2.1.1
  simp only [xL_law_467, xL_law_468, xL_law_469, xL_law_470, xL_law_471, xL_law_472, xL_law_473, xL_law_474, xL_law_475, xL_law_476, xL_law_477, xL_law_478, xL_law_481, xL_law_482, xL_law_483, xL_law_484, xL_law_485, xL_law_486, xL_law_487, xL_law_488, xL_law_489, xL_law_490, xL_law_491, xL_law_492, xL_law_495, xL_law_498, xL_law_499, Bool.false_eq_true, if_true, if_false, kl_i, kl_a, kl_s, kl_u, kl_l, okS_nil, okS_cons, cat_i, cat_a, cat_s, cat_l, Nat.reduceAdd, Nat.reduceLeDiff, Nat.reduceSub, Nat.sub_zero, Nat.sub_self, Nat.zero_add, Nat.le_refl, Nat.zero_le, List.length_cons, List.length_nil, true_and, and_true, true_or, or_true, eq_self, forall_const, true_implies, not_true_eq_false, not_false_eq_true, false_implies, implies_true, false_and, and_false, false_or, or_false, ia1, ia2, ia3, ia4, ia5, v1, v2, v3, v4, v5, h5]
  refine (p_guard hw _ _ m l h).mono (Nat.le_refl _) (fun r σ1 m1 l1 hq => ?_)
  obtain ⟨e1, hc⟩ := hq
  subst e1
  refine ⟨h6, hc.mono (Nat.le_refl _) (fun r' σ2 m2 l2 hq2 => ?_)⟩
  obtain ⟨e2, e3, hR⟩ := hq2
  subst e2 e3
  exact ⟨fun _ => hK _ _ hR, fun g => absurd rfl g⟩
theorem w_undo {K : Cx} {σ : Sg} {m : Mm} {l : Ml} {p : Nat} {b1 b2 : Nat} (hw : WF σ) (h : RR m) (hp : p + 6 ≤ xL K) (hL : xL K ≤ 3072) (hK : ∀ m' l', RR m' → WX (tL_law K 12) lwQ (994, [.retAddr 2000, .ref 0, .ref 199, .int (nI p)], [], (b1, b2), σ, m', l')) : WX (tL_law K 12) lwQ (500, [.retAddr 2000, .ref 0, .ref 199, .int (nI p)], [], (b1, b2), σ, m, l) := by
  have v1 := inN (v := p + 1) (n := xL K) (by omega) (by omega)
  have v2 := inN (v := p + 2) (n := xL K) (by omega) (by omega)
  have v3 := inN (v := p + 3) (n := xL K) (by omega) (by omega)
  have v4 := inN (v := p + 4) (n := xL K) (by omega) (by omega)
  have v5 := inN (v := p + 5) (n := xL K) (by omega) (by omega)
  have h5 := hw.1.1
  have h6 := hw.2.2.2.2.2.1.1
  simp only [xL_law_500, xL_law_501, xL_law_504, xL_law_505, xL_law_508, xL_law_511, xL_law_512, Bool.false_eq_true, if_true, if_false, kl_i, kl_a, kl_s, kl_u, kl_l, okS_nil, okS_cons, cat_i, cat_a, cat_s, cat_l, Nat.reduceAdd, Nat.reduceLeDiff, Nat.reduceSub, Nat.sub_zero, Nat.sub_self, Nat.zero_add, Nat.le_refl, Nat.zero_le, List.length_cons, List.length_nil, true_and, and_true, true_or, or_true, eq_self, forall_const, true_implies, not_true_eq_false, not_false_eq_true, false_implies, implies_true, false_and, and_false, false_or, or_false, ia1, ia2, ia3, ia4, ia5, v1, v2, v3, v4, v5, h5]
  refine (p_undo hw m l h).mono (Nat.le_refl _) (fun r σ1 m1 l1 hq => ?_)
  obtain ⟨e1, hc⟩ := hq
  subst e1
  refine ⟨h6, hc.mono (Nat.le_refl _) (fun r' σ2 m2 l2 hq2 => ?_)⟩
  obtain ⟨e2, e3, hR⟩ := hq2
  subst e2 e3
  exact ⟨fun _ => hK _ _ hR, fun g => absurd rfl g⟩
theorem w_village {K : Cx} {σ : Sg} {m : Mm} {l : Ml} {p : Nat} {b1 b2 : Nat} (hw : WF σ) (h : RR m) (hp : p + 6 ≤ xL K) (hL : xL K ≤ 3072) (hK : ∀ m' l', RR m' → WX (tL_law K 12) lwQ (994, [.retAddr 2000, .ref 0, .ref 199, .int (nI p)], [], (b1, b2), σ, m', l')) : WX (tL_law K 12) lwQ (513, [.retAddr 2000, .ref 0, .ref 199, .int (nI p)], [], (b1, b2), σ, m, l) := by
  have v1 := inN (v := p + 1) (n := xL K) (by omega) (by omega)
  have v2 := inN (v := p + 2) (n := xL K) (by omega) (by omega)
  have v3 := inN (v := p + 3) (n := xL K) (by omega) (by omega)
  have v4 := inN (v := p + 4) (n := xL K) (by omega) (by omega)
  have v5 := inN (v := p + 5) (n := xL K) (by omega) (by omega)
  have h5 := hw.1.1
  have h6 := hw.2.2.2.2.2.1.1
  simp only [xL_law_513, xL_law_514, xL_law_515, xL_law_516, xL_law_517, xL_law_518, xL_law_519, xL_law_520, xL_law_521, xL_law_522, xL_law_523, xL_law_524, xL_law_527, xL_law_528, xL_law_529, xL_law_530, xL_law_531, xL_law_532, xL_law_533, xL_law_534, xL_law_535, xL_law_536, xL_law_537, xL_law_538, xL_law_541, xL_law_544, xL_law_545, Bool.false_eq_true, if_true, if_false, kl_i, kl_a, kl_s, kl_u, kl_l, okS_nil, okS_cons, cat_i, cat_a, cat_s, cat_l, Nat.reduceAdd, Nat.reduceLeDiff, Nat.reduceSub, Nat.sub_zero, Nat.sub_self, Nat.zero_add, Nat.le_refl, Nat.zero_le, List.length_cons, List.length_nil, true_and, and_true, true_or, or_true, eq_self, forall_const, true_implies, not_true_eq_false, not_false_eq_true, false_implies, implies_true, false_and, and_false, false_or, or_false, ia1, ia2, ia3, ia4, ia5, v1, v2, v3, v4, v5, h5]
  refine (p_village hw _ _ m l h).mono (Nat.le_refl _) (fun r σ1 m1 l1 hq => ?_)
  obtain ⟨e1, hc⟩ := hq
  subst e1
  refine ⟨h6, hc.mono (Nat.le_refl _) (fun r' σ2 m2 l2 hq2 => ?_)⟩
  obtain ⟨e2, e3, hR⟩ := hq2
  subst e2 e3
  exact ⟨fun _ => hK _ _ hR, fun g => absurd rfl g⟩
theorem w_ahead {K : Cx} {σ : Sg} {m : Mm} {l : Ml} {p : Nat} {b1 b2 : Nat} (hw : WF σ) (h : RR m) (hp : p + 6 ≤ xL K) (hL : xL K ≤ 3072) (hK : ∀ m' l', RR m' → WX (tL_law K 12) lwQ (994, [.retAddr 2000, .ref 0, .ref 199, .int (nI p)], [], (b1, b2), σ, m', l')) : WX (tL_law K 12) lwQ (546, [.retAddr 2000, .ref 0, .ref 199, .int (nI p)], [], (b1, b2), σ, m, l) := by
  have v1 := inN (v := p + 1) (n := xL K) (by omega) (by omega)
  have v2 := inN (v := p + 2) (n := xL K) (by omega) (by omega)
  have v3 := inN (v := p + 3) (n := xL K) (by omega) (by omega)
  have v4 := inN (v := p + 4) (n := xL K) (by omega) (by omega)
  have v5 := inN (v := p + 5) (n := xL K) (by omega) (by omega)
  have h5 := hw.1.1
  have h6 := hw.2.2.2.2.2.1.1
  simp only [xL_law_546, xL_law_547, xL_law_548, xL_law_549, xL_law_550, xL_law_551, xL_law_552, xL_law_553, xL_law_554, xL_law_555, xL_law_556, xL_law_557, xL_law_558, xL_law_559, xL_law_560, xL_law_561, xL_law_562, xL_law_565, xL_law_566, xL_law_567, xL_law_568, xL_law_569, xL_law_570, xL_law_571, xL_law_572, xL_law_573, xL_law_574, xL_law_575, xL_law_576, xL_law_577, xL_law_578, xL_law_579, xL_law_580, xL_law_581, xL_law_584, xL_law_587, xL_law_588, Bool.false_eq_true, if_true, if_false, kl_i, kl_a, kl_s, kl_u, kl_l, okS_nil, okS_cons, cat_i, cat_a, cat_s, cat_l, Nat.reduceAdd, Nat.reduceLeDiff, Nat.reduceSub, Nat.sub_zero, Nat.sub_self, Nat.zero_add, Nat.le_refl, Nat.zero_le, List.length_cons, List.length_nil, true_and, and_true, true_or, or_true, eq_self, forall_const, true_implies, not_true_eq_false, not_false_eq_true, false_implies, implies_true, false_and, and_false, false_or, or_false, ia1, ia2, ia3, ia4, ia5, v1, v2, v3, v4, v5, h5]
  refine (p_ahead hw _ _ _ m l h).mono (Nat.le_refl _) (fun r σ1 m1 l1 hq => ?_)
  obtain ⟨e1, hc⟩ := hq
  subst e1
  refine ⟨h6, hc.mono (Nat.le_refl _) (fun r' σ2 m2 l2 hq2 => ?_)⟩
  obtain ⟨e2, e3, hR⟩ := hq2
  subst e2 e3
  exact ⟨fun _ => hK _ _ hR, fun g => absurd rfl g⟩
theorem w_first {K : Cx} {σ : Sg} {m : Mm} {l : Ml} {p : Nat} {b1 b2 : Nat} (hw : WF σ) (h : RR m) (hp : p + 6 ≤ xL K) (hL : xL K ≤ 3072) (hK : ∀ m' l', RR m' → WX (tL_law K 12) lwQ (994, [.retAddr 2000, .ref 0, .ref 199, .int (nI p)], [], (b1, b2), σ, m', l')) : WX (tL_law K 12) lwQ (589, [.retAddr 2000, .ref 0, .ref 199, .int (nI p)], [], (b1, b2), σ, m, l) := by
  have v1 := inN (v := p + 1) (n := xL K) (by omega) (by omega)
  have v2 := inN (v := p + 2) (n := xL K) (by omega) (by omega)
  have v3 := inN (v := p + 3) (n := xL K) (by omega) (by omega)
  have v4 := inN (v := p + 4) (n := xL K) (by omega) (by omega)
  have v5 := inN (v := p + 5) (n := xL K) (by omega) (by omega)
  have h5 := hw.1.1
  have h6 := hw.2.2.2.2.2.1.1
  simp only [xL_law_589, xL_law_590, xL_law_591, xL_law_592, xL_law_593, xL_law_594, xL_law_595, xL_law_598, xL_law_599, xL_law_600, xL_law_601, xL_law_602, xL_law_603, xL_law_604, xL_law_607, xL_law_610, xL_law_611, Bool.false_eq_true, if_true, if_false, kl_i, kl_a, kl_s, kl_u, kl_l, okS_nil, okS_cons, cat_i, cat_a, cat_s, cat_l, Nat.reduceAdd, Nat.reduceLeDiff, Nat.reduceSub, Nat.sub_zero, Nat.sub_self, Nat.zero_add, Nat.le_refl, Nat.zero_le, List.length_cons, List.length_nil, true_and, and_true, true_or, or_true, eq_self, forall_const, true_implies, not_true_eq_false, not_false_eq_true, false_implies, implies_true, false_and, and_false, false_or, or_false, ia1, ia2, ia3, ia4, ia5, v1, v2, v3, v4, v5, h5]
  refine (p_first hw _ m l h).mono (Nat.le_refl _) (fun r σ1 m1 l1 hq => ?_)
  obtain ⟨e1, hc⟩ := hq
  subst e1
  refine ⟨h6, hc.mono (Nat.le_refl _) (fun r' σ2 m2 l2 hq2 => ?_)⟩
  obtain ⟨e2, e3, hR⟩ := hq2
  subst e2 e3
  exact ⟨fun _ => hK _ _ hR, fun g => absurd rfl g⟩
theorem w_rest {K : Cx} {σ : Sg} {m : Mm} {l : Ml} {p : Nat} {b1 b2 : Nat} (hw : WF σ) (h : RR m) (hp : p + 6 ≤ xL K) (hL : xL K ≤ 3072) (hK : ∀ m' l', RR m' → WX (tL_law K 12) lwQ (994, [.retAddr 2000, .ref 0, .ref 199, .int (nI p)], [], (b1, b2), σ, m', l')) : WX (tL_law K 12) lwQ (612, [.retAddr 2000, .ref 0, .ref 199, .int (nI p)], [], (b1, b2), σ, m, l) := by
  have v1 := inN (v := p + 1) (n := xL K) (by omega) (by omega)
  have v2 := inN (v := p + 2) (n := xL K) (by omega) (by omega)
  have v3 := inN (v := p + 3) (n := xL K) (by omega) (by omega)
  have v4 := inN (v := p + 4) (n := xL K) (by omega) (by omega)
  have v5 := inN (v := p + 5) (n := xL K) (by omega) (by omega)
  have h5 := hw.1.1
  have h6 := hw.2.2.2.2.2.1.1
  simp only [xL_law_612, xL_law_613, xL_law_614, xL_law_615, xL_law_616, xL_law_617, xL_law_618, xL_law_621, xL_law_622, xL_law_623, xL_law_624, xL_law_625, xL_law_626, xL_law_627, xL_law_630, xL_law_633, xL_law_634, Bool.false_eq_true, if_true, if_false, kl_i, kl_a, kl_s, kl_u, kl_l, okS_nil, okS_cons, cat_i, cat_a, cat_s, cat_l, Nat.reduceAdd, Nat.reduceLeDiff, Nat.reduceSub, Nat.sub_zero, Nat.sub_self, Nat.zero_add, Nat.le_refl, Nat.zero_le, List.length_cons, List.length_nil, true_and, and_true, true_or, or_true, eq_self, forall_const, true_implies, not_true_eq_false, not_false_eq_true, false_implies, implies_true, false_and, and_false, false_or, or_false, ia1, ia2, ia3, ia4, ia5, v1, v2, v3, v4, v5, h5]
  refine (p_rest hw _ m l h).mono (Nat.le_refl _) (fun r σ1 m1 l1 hq => ?_)
  obtain ⟨e1, hc⟩ := hq
  subst e1
  refine ⟨h6, hc.mono (Nat.le_refl _) (fun r' σ2 m2 l2 hq2 => ?_)⟩
  obtain ⟨e2, e3, hR⟩ := hq2
  subst e2 e3
  exact ⟨fun _ => hK _ _ hR, fun g => absurd rfl g⟩
theorem w_most {K : Cx} {σ : Sg} {m : Mm} {l : Ml} {p : Nat} {b1 b2 : Nat} (hw : WF σ) (h : RR m) (hp : p + 6 ≤ xL K) (hL : xL K ≤ 3072) (hK : ∀ m' l', RR m' → WX (tL_law K 12) lwQ (994, [.retAddr 2000, .ref 0, .ref 199, .int (nI p)], [], (b1, b2), σ, m', l')) : WX (tL_law K 12) lwQ (635, [.retAddr 2000, .ref 0, .ref 199, .int (nI p)], [], (b1, b2), σ, m, l) := by
  have v1 := inN (v := p + 1) (n := xL K) (by omega) (by omega)
  have v2 := inN (v := p + 2) (n := xL K) (by omega) (by omega)
  have v3 := inN (v := p + 3) (n := xL K) (by omega) (by omega)
  have v4 := inN (v := p + 4) (n := xL K) (by omega) (by omega)
  have v5 := inN (v := p + 5) (n := xL K) (by omega) (by omega)
  have h5 := hw.1.1
  have h6 := hw.2.2.2.2.2.1.1
  simp only [xL_law_635, xL_law_636, xL_law_637, xL_law_638, xL_law_639, xL_law_640, xL_law_641, xL_law_644, xL_law_645, xL_law_646, xL_law_647, xL_law_648, xL_law_649, xL_law_650, xL_law_653, xL_law_656, xL_law_657, Bool.false_eq_true, if_true, if_false, kl_i, kl_a, kl_s, kl_u, kl_l, okS_nil, okS_cons, cat_i, cat_a, cat_s, cat_l, Nat.reduceAdd, Nat.reduceLeDiff, Nat.reduceSub, Nat.sub_zero, Nat.sub_self, Nat.zero_add, Nat.le_refl, Nat.zero_le, List.length_cons, List.length_nil, true_and, and_true, true_or, or_true, eq_self, forall_const, true_implies, not_true_eq_false, not_false_eq_true, false_implies, implies_true, false_and, and_false, false_or, or_false, ia1, ia2, ia3, ia4, ia5, v1, v2, v3, v4, v5, h5]
  refine (p_most hw _ m l h).mono (Nat.le_refl _) (fun r σ1 m1 l1 hq => ?_)
  obtain ⟨e1, hc⟩ := hq
  subst e1
  refine ⟨h6, hc.mono (Nat.le_refl _) (fun r' σ2 m2 l2 hq2 => ?_)⟩
  obtain ⟨e2, e3, hR⟩ := hq2
  subst e2 e3
  exact ⟨fun _ => hK _ _ hR, fun g => absurd rfl g⟩
theorem w_guards {K : Cx} {σ : Sg} {m : Mm} {l : Ml} {p : Nat} {b1 b2 : Nat} (hw : WF σ) (h : RR m) (hp : p + 6 ≤ xL K) (hL : xL K ≤ 3072) (hK : ∀ m' l', RR m' → WX (tL_law K 12) lwQ (994, [.retAddr 2000, .ref 0, .ref 199, .int (nI p)], [], (b1, b2), σ, m', l')) : WX (tL_law K 12) lwQ (658, [.retAddr 2000, .ref 0, .ref 199, .int (nI p)], [], (b1, b2), σ, m, l) := by
  have v1 := inN (v := p + 1) (n := xL K) (by omega) (by omega)
  have v2 := inN (v := p + 2) (n := xL K) (by omega) (by omega)
  have v3 := inN (v := p + 3) (n := xL K) (by omega) (by omega)
  have v4 := inN (v := p + 4) (n := xL K) (by omega) (by omega)
  have v5 := inN (v := p + 5) (n := xL K) (by omega) (by omega)
  have h5 := hw.1.1
  have h6 := hw.2.2.2.2.2.1.1
  simp only [xL_law_658, xL_law_659, xL_law_660, xL_law_661, xL_law_662, xL_law_663, xL_law_664, xL_law_667, xL_law_668, xL_law_669, xL_law_670, xL_law_671, xL_law_672, xL_law_673, xL_law_676, xL_law_679, xL_law_680, Bool.false_eq_true, if_true, if_false, kl_i, kl_a, kl_s, kl_u, kl_l, okS_nil, okS_cons, cat_i, cat_a, cat_s, cat_l, Nat.reduceAdd, Nat.reduceLeDiff, Nat.reduceSub, Nat.sub_zero, Nat.sub_self, Nat.zero_add, Nat.le_refl, Nat.zero_le, List.length_cons, List.length_nil, true_and, and_true, true_or, or_true, eq_self, forall_const, true_implies, not_true_eq_false, not_false_eq_true, false_implies, implies_true, false_and, and_false, false_or, or_false, ia1, ia2, ia3, ia4, ia5, v1, v2, v3, v4, v5, h5]
  refine (p_guards hw _ m l h).mono (Nat.le_refl _) (fun r σ1 m1 l1 hq => ?_)
  obtain ⟨e1, hc⟩ := hq
  subst e1
  refine ⟨h6, hc.mono (Nat.le_refl _) (fun r' σ2 m2 l2 hq2 => ?_)⟩
  obtain ⟨e2, e3, hR⟩ := hq2
  subst e2 e3
  exact ⟨fun _ => hK _ _ hR, fun g => absurd rfl g⟩
theorem w_drew {K : Cx} {σ : Sg} {m : Mm} {l : Ml} {p : Nat} {b1 b2 : Nat} (hw : WF σ) (h : RR m) (hp : p + 6 ≤ xL K) (hL : xL K ≤ 3072) (hK : ∀ m' l', RR m' → WX (tL_law K 12) lwQ (994, [.retAddr 2000, .ref 0, .ref 199, .int (nI p)], [], (b1, b2), σ, m', l')) : WX (tL_law K 12) lwQ (681, [.retAddr 2000, .ref 0, .ref 199, .int (nI p)], [], (b1, b2), σ, m, l) := by
  have v1 := inN (v := p + 1) (n := xL K) (by omega) (by omega)
  have v2 := inN (v := p + 2) (n := xL K) (by omega) (by omega)
  have v3 := inN (v := p + 3) (n := xL K) (by omega) (by omega)
  have v4 := inN (v := p + 4) (n := xL K) (by omega) (by omega)
  have v5 := inN (v := p + 5) (n := xL K) (by omega) (by omega)
  have h5 := hw.1.1
  have h6 := hw.2.2.2.2.2.1.1
  simp only [xL_law_681, xL_law_682, xL_law_683, xL_law_684, xL_law_685, xL_law_686, xL_law_687, xL_law_688, xL_law_689, xL_law_690, xL_law_691, xL_law_692, xL_law_695, xL_law_696, xL_law_697, xL_law_698, xL_law_699, xL_law_700, xL_law_701, xL_law_702, xL_law_703, xL_law_704, xL_law_705, xL_law_706, xL_law_709, xL_law_712, xL_law_713, Bool.false_eq_true, if_true, if_false, kl_i, kl_a, kl_s, kl_u, kl_l, okS_nil, okS_cons, cat_i, cat_a, cat_s, cat_l, Nat.reduceAdd, Nat.reduceLeDiff, Nat.reduceSub, Nat.sub_zero, Nat.sub_self, Nat.zero_add, Nat.le_refl, Nat.zero_le, List.length_cons, List.length_nil, true_and, and_true, true_or, or_true, eq_self, forall_const, true_implies, not_true_eq_false, not_false_eq_true, false_implies, implies_true, false_and, and_false, false_or, or_false, ia1, ia2, ia3, ia4, ia5, v1, v2, v3, v4, v5, h5]
  refine (p_drew hw _ _ m l h).mono (Nat.le_refl _) (fun r σ1 m1 l1 hq => ?_)
  obtain ⟨e1, hc⟩ := hq
  subst e1
  refine ⟨h6, hc.mono (Nat.le_refl _) (fun r' σ2 m2 l2 hq2 => ?_)⟩
  obtain ⟨e2, e3, hR⟩ := hq2
  subst e2 e3
  exact ⟨fun _ => hK _ _ hR, fun g => absurd rfl g⟩
theorem w_where {K : Cx} {σ : Sg} {m : Mm} {l : Ml} {p : Nat} {b1 b2 : Nat} (hw : WF σ) (h : RR m) (hp : p + 6 ≤ xL K) (hL : xL K ≤ 3072) (hK : ∀ m' l', RR m' → WX (tL_law K 12) lwQ (994, [.retAddr 2000, .ref 0, .ref 199, .int (nI p)], [], (b1, b2), σ, m', l')) : WX (tL_law K 12) lwQ (714, [.retAddr 2000, .ref 0, .ref 199, .int (nI p)], [], (b1, b2), σ, m, l) := by
  have v1 := inN (v := p + 1) (n := xL K) (by omega) (by omega)
  have v2 := inN (v := p + 2) (n := xL K) (by omega) (by omega)
  have v3 := inN (v := p + 3) (n := xL K) (by omega) (by omega)
  have v4 := inN (v := p + 4) (n := xL K) (by omega) (by omega)
  have v5 := inN (v := p + 5) (n := xL K) (by omega) (by omega)
  have h5 := hw.1.1
  have h6 := hw.2.2.2.2.2.1.1
  simp only [xL_law_714, xL_law_715, xL_law_716, xL_law_717, xL_law_718, xL_law_719, xL_law_720, xL_law_721, xL_law_722, xL_law_723, xL_law_724, xL_law_725, xL_law_726, xL_law_727, xL_law_728, xL_law_729, xL_law_730, xL_law_733, xL_law_734, xL_law_735, xL_law_736, xL_law_737, xL_law_738, xL_law_739, xL_law_740, xL_law_741, xL_law_742, xL_law_743, xL_law_744, xL_law_745, xL_law_746, xL_law_747, xL_law_748, xL_law_749, xL_law_752, xL_law_755, xL_law_756, Bool.false_eq_true, if_true, if_false, kl_i, kl_a, kl_s, kl_u, kl_l, okS_nil, okS_cons, cat_i, cat_a, cat_s, cat_l, Nat.reduceAdd, Nat.reduceLeDiff, Nat.reduceSub, Nat.sub_zero, Nat.sub_self, Nat.zero_add, Nat.le_refl, Nat.zero_le, List.length_cons, List.length_nil, true_and, and_true, true_or, or_true, eq_self, forall_const, true_implies, not_true_eq_false, not_false_eq_true, false_implies, implies_true, false_and, and_false, false_or, or_false, ia1, ia2, ia3, ia4, ia5, v1, v2, v3, v4, v5, h5]
  refine (p_where hw _ _ _ m l h).mono (Nat.le_refl _) (fun r σ1 m1 l1 hq => ?_)
  obtain ⟨e1, hc⟩ := hq
  subst e1
  refine ⟨h6, hc.mono (Nat.le_refl _) (fun r' σ2 m2 l2 hq2 => ?_)⟩
  obtain ⟨e2, e3, hR⟩ := hq2
  subst e2 e3
  exact ⟨fun _ => hK _ _ hR, fun g => absurd rfl g⟩
theorem w_wed {K : Cx} {σ : Sg} {m : Mm} {l : Ml} {p : Nat} {b1 b2 : Nat} (hw : WF σ) (h : RR m) (hp : p + 6 ≤ xL K) (hL : xL K ≤ 3072) (hK : ∀ m' l', RR m' → WX (tL_law K 12) lwQ (994, [.retAddr 2000, .ref 0, .ref 199, .int (nI p)], [], (b1, b2), σ, m', l')) : WX (tL_law K 12) lwQ (757, [.retAddr 2000, .ref 0, .ref 199, .int (nI p)], [], (b1, b2), σ, m, l) := by
  have v1 := inN (v := p + 1) (n := xL K) (by omega) (by omega)
  have v2 := inN (v := p + 2) (n := xL K) (by omega) (by omega)
  have v3 := inN (v := p + 3) (n := xL K) (by omega) (by omega)
  have v4 := inN (v := p + 4) (n := xL K) (by omega) (by omega)
  have v5 := inN (v := p + 5) (n := xL K) (by omega) (by omega)
  have h5 := hw.1.1
  have h6 := hw.2.2.2.2.2.1.1
  simp only [xL_law_757, xL_law_758, xL_law_759, xL_law_760, xL_law_761, xL_law_762, xL_law_763, xL_law_764, xL_law_765, xL_law_766, xL_law_767, xL_law_768, xL_law_769, xL_law_770, xL_law_771, xL_law_772, xL_law_773, xL_law_776, xL_law_777, xL_law_778, xL_law_779, xL_law_780, xL_law_781, xL_law_782, xL_law_783, xL_law_784, xL_law_785, xL_law_786, xL_law_787, xL_law_788, xL_law_789, xL_law_790, xL_law_791, xL_law_792, xL_law_795, xL_law_798, xL_law_799, Bool.false_eq_true, if_true, if_false, kl_i, kl_a, kl_s, kl_u, kl_l, okS_nil, okS_cons, cat_i, cat_a, cat_s, cat_l, Nat.reduceAdd, Nat.reduceLeDiff, Nat.reduceSub, Nat.sub_zero, Nat.sub_self, Nat.zero_add, Nat.le_refl, Nat.zero_le, List.length_cons, List.length_nil, true_and, and_true, true_or, or_true, eq_self, forall_const, true_implies, not_true_eq_false, not_false_eq_true, false_implies, implies_true, false_and, and_false, false_or, or_false, ia1, ia2, ia3, ia4, ia5, v1, v2, v3, v4, v5, h5]
  refine (p_wed hw _ _ _ m l h).mono (Nat.le_refl _) (fun r σ1 m1 l1 hq => ?_)
  obtain ⟨e1, hc⟩ := hq
  subst e1
  refine ⟨h6, hc.mono (Nat.le_refl _) (fun r' σ2 m2 l2 hq2 => ?_)⟩
  obtain ⟨e2, e3, hR⟩ := hq2
  subst e2 e3
  exact ⟨fun _ => hK _ _ hR, fun g => absurd rfl g⟩
theorem w_image {K : Cx} {σ : Sg} {m : Mm} {l : Ml} {p : Nat} {b1 b2 : Nat} (hw : WF σ) (h : RR m) (hp : p + 6 ≤ xL K) (hL : xL K ≤ 3072) (hK : ∀ m' l', RR m' → WX (tL_law K 12) lwQ (994, [.retAddr 2000, .ref 0, .ref 199, .int (nI p)], [], (b1, b2), σ, m', l')) : WX (tL_law K 12) lwQ (800, [.retAddr 2000, .ref 0, .ref 199, .int (nI p)], [], (b1, b2), σ, m, l) := by
  have v1 := inN (v := p + 1) (n := xL K) (by omega) (by omega)
  have v2 := inN (v := p + 2) (n := xL K) (by omega) (by omega)
  have v3 := inN (v := p + 3) (n := xL K) (by omega) (by omega)
  have v4 := inN (v := p + 4) (n := xL K) (by omega) (by omega)
  have v5 := inN (v := p + 5) (n := xL K) (by omega) (by omega)
  have h5 := hw.1.1
  have h6 := hw.2.2.2.2.2.1.1
  simp only [xL_law_800, xL_law_801, xL_law_802, xL_law_803, xL_law_804, xL_law_805, xL_law_806, xL_law_809, xL_law_810, xL_law_811, xL_law_812, xL_law_813, xL_law_814, xL_law_815, xL_law_818, xL_law_821, xL_law_822, Bool.false_eq_true, if_true, if_false, kl_i, kl_a, kl_s, kl_u, kl_l, okS_nil, okS_cons, cat_i, cat_a, cat_s, cat_l, Nat.reduceAdd, Nat.reduceLeDiff, Nat.reduceSub, Nat.sub_zero, Nat.sub_self, Nat.zero_add, Nat.le_refl, Nat.zero_le, List.length_cons, List.length_nil, true_and, and_true, true_or, or_true, eq_self, forall_const, true_implies, not_true_eq_false, not_false_eq_true, false_implies, implies_true, false_and, and_false, false_or, or_false, ia1, ia2, ia3, ia4, ia5, v1, v2, v3, v4, v5, h5]
  refine (p_image hw _ m l h).mono (Nat.le_refl _) (fun r σ1 m1 l1 hq => ?_)
  obtain ⟨e1, hc⟩ := hq
  subst e1
  refine ⟨h6, hc.mono (Nat.le_refl _) (fun r' σ2 m2 l2 hq2 => ?_)⟩
  obtain ⟨e2, e3, hR⟩ := hq2
  subst e2 e3
  exact ⟨fun _ => hK _ _ hR, fun g => absurd rfl g⟩
theorem w_restore {K : Cx} {σ : Sg} {m : Mm} {l : Ml} {p : Nat} {b1 b2 : Nat} (hw : WF σ) (h : RR m) (hp : p + 6 ≤ xL K) (hL : xL K ≤ 3072) (hK : ∀ m' l', RR m' → WX (tL_law K 12) lwQ (994, [.retAddr 2000, .ref 0, .ref 199, .int (nI p)], [], (b1, b2), σ, m', l')) : WX (tL_law K 12) lwQ (823, [.retAddr 2000, .ref 0, .ref 199, .int (nI p)], [], (b1, b2), σ, m, l) := by
  have v1 := inN (v := p + 1) (n := xL K) (by omega) (by omega)
  have v2 := inN (v := p + 2) (n := xL K) (by omega) (by omega)
  have v3 := inN (v := p + 3) (n := xL K) (by omega) (by omega)
  have v4 := inN (v := p + 4) (n := xL K) (by omega) (by omega)
  have v5 := inN (v := p + 5) (n := xL K) (by omega) (by omega)
  have h5 := hw.1.1
  have h6 := hw.2.2.2.2.2.1.1
  simp only [xL_law_823, xL_law_824, xL_law_825, xL_law_826, xL_law_827, xL_law_828, xL_law_829, xL_law_832, xL_law_833, xL_law_834, xL_law_835, xL_law_836, xL_law_837, xL_law_838, xL_law_841, xL_law_844, xL_law_845, Bool.false_eq_true, if_true, if_false, kl_i, kl_a, kl_s, kl_u, kl_l, okS_nil, okS_cons, cat_i, cat_a, cat_s, cat_l, Nat.reduceAdd, Nat.reduceLeDiff, Nat.reduceSub, Nat.sub_zero, Nat.sub_self, Nat.zero_add, Nat.le_refl, Nat.zero_le, List.length_cons, List.length_nil, true_and, and_true, true_or, or_true, eq_self, forall_const, true_implies, not_true_eq_false, not_false_eq_true, false_implies, implies_true, false_and, and_false, false_or, or_false, ia1, ia2, ia3, ia4, ia5, v1, v2, v3, v4, v5, h5]
  refine (p_restore hw _ m l h).mono (Nat.le_refl _) (fun r σ1 m1 l1 hq => ?_)
  obtain ⟨e1, hc⟩ := hq
  subst e1
  refine ⟨h6, hc.mono (Nat.le_refl _) (fun r' σ2 m2 l2 hq2 => ?_)⟩
  obtain ⟨e2, e3, hR⟩ := hq2
  subst e2 e3
  exact ⟨fun _ => hK _ _ hR, fun g => absurd rfl g⟩
theorem w_kind {K : Cx} {σ : Sg} {m : Mm} {l : Ml} {p : Nat} {b1 b2 : Nat} (hw : WF σ) (h : RR m) (hp : p + 6 ≤ xL K) (hL : xL K ≤ 3072) (hK : ∀ m' l', RR m' → WX (tL_law K 12) lwQ (994, [.retAddr 2000, .ref 0, .ref 199, .int (nI p)], [], (b1, b2), σ, m', l')) : WX (tL_law K 12) lwQ (846, [.retAddr 2000, .ref 0, .ref 199, .int (nI p)], [], (b1, b2), σ, m, l) := by
  have v1 := inN (v := p + 1) (n := xL K) (by omega) (by omega)
  have v2 := inN (v := p + 2) (n := xL K) (by omega) (by omega)
  have v3 := inN (v := p + 3) (n := xL K) (by omega) (by omega)
  have v4 := inN (v := p + 4) (n := xL K) (by omega) (by omega)
  have v5 := inN (v := p + 5) (n := xL K) (by omega) (by omega)
  have h5 := hw.1.1
  have h6 := hw.2.2.2.2.2.1.1
  simp only [xL_law_846, xL_law_847, xL_law_848, xL_law_849, xL_law_850, xL_law_851, xL_law_852, xL_law_855, xL_law_856, xL_law_857, xL_law_858, xL_law_859, xL_law_860, xL_law_861, xL_law_864, xL_law_867, xL_law_868, Bool.false_eq_true, if_true, if_false, kl_i, kl_a, kl_s, kl_u, kl_l, okS_nil, okS_cons, cat_i, cat_a, cat_s, cat_l, Nat.reduceAdd, Nat.reduceLeDiff, Nat.reduceSub, Nat.sub_zero, Nat.sub_self, Nat.zero_add, Nat.le_refl, Nat.zero_le, List.length_cons, List.length_nil, true_and, and_true, true_or, or_true, eq_self, forall_const, true_implies, not_true_eq_false, not_false_eq_true, false_implies, implies_true, false_and, and_false, false_or, or_false, ia1, ia2, ia3, ia4, ia5, v1, v2, v3, v4, v5, h5]
  refine (p_kind hw _ m l h).mono (Nat.le_refl _) (fun r σ1 m1 l1 hq => ?_)
  obtain ⟨e1, hc⟩ := hq
  subst e1
  refine ⟨h6, hc.mono (Nat.le_refl _) (fun r' σ2 m2 l2 hq2 => ?_)⟩
  obtain ⟨e2, e3, hR⟩ := hq2
  subst e2 e3
  exact ⟨fun _ => hK _ _ hR, fun g => absurd rfl g⟩
theorem w_as {K : Cx} {σ : Sg} {m : Mm} {l : Ml} {p : Nat} {b1 b2 : Nat} (hw : WF σ) (h : RR m) (hp : p + 6 ≤ xL K) (hL : xL K ≤ 3072) (hK : ∀ m' l', RR m' → WX (tL_law K 12) lwQ (994, [.retAddr 2000, .ref 0, .ref 199, .int (nI p)], [], (b1, b2), σ, m', l')) : WX (tL_law K 12) lwQ (869, [.retAddr 2000, .ref 0, .ref 199, .int (nI p)], [], (b1, b2), σ, m, l) := by
  have v1 := inN (v := p + 1) (n := xL K) (by omega) (by omega)
  have v2 := inN (v := p + 2) (n := xL K) (by omega) (by omega)
  have v3 := inN (v := p + 3) (n := xL K) (by omega) (by omega)
  have v4 := inN (v := p + 4) (n := xL K) (by omega) (by omega)
  have v5 := inN (v := p + 5) (n := xL K) (by omega) (by omega)
  have h5 := hw.1.1
  have h6 := hw.2.2.2.2.2.1.1
  simp only [xL_law_869, xL_law_870, xL_law_871, xL_law_872, xL_law_873, xL_law_874, xL_law_875, xL_law_876, xL_law_877, xL_law_878, xL_law_879, xL_law_880, xL_law_883, xL_law_884, xL_law_885, xL_law_886, xL_law_887, xL_law_888, xL_law_889, xL_law_890, xL_law_891, xL_law_892, xL_law_893, xL_law_894, xL_law_897, xL_law_900, xL_law_901, Bool.false_eq_true, if_true, if_false, kl_i, kl_a, kl_s, kl_u, kl_l, okS_nil, okS_cons, cat_i, cat_a, cat_s, cat_l, Nat.reduceAdd, Nat.reduceLeDiff, Nat.reduceSub, Nat.sub_zero, Nat.sub_self, Nat.zero_add, Nat.le_refl, Nat.zero_le, List.length_cons, List.length_nil, true_and, and_true, true_or, or_true, eq_self, forall_const, true_implies, not_true_eq_false, not_false_eq_true, false_implies, implies_true, false_and, and_false, false_or, or_false, ia1, ia2, ia3, ia4, ia5, v1, v2, v3, v4, v5, h5]
  refine (p_as hw _ _ m l h).mono (Nat.le_refl _) (fun r σ1 m1 l1 hq => ?_)
  obtain ⟨e1, hc⟩ := hq
  subst e1
  refine ⟨h6, hc.mono (Nat.le_refl _) (fun r' σ2 m2 l2 hq2 => ?_)⟩
  obtain ⟨e2, e3, hR⟩ := hq2
  subst e2 e3
  exact ⟨fun _ => hK _ _ hR, fun g => absurd rfl g⟩
theorem w_ask {K : Cx} {σ : Sg} {m : Mm} {l : Ml} {p : Nat} {b1 b2 : Nat} (hw : WF σ) (h : RR m) (hp : p + 6 ≤ xL K) (hL : xL K ≤ 3072) (hK : ∀ m' l', RR m' → WX (tL_law K 12) lwQ (994, [.retAddr 2000, .ref 0, .ref 199, .int (nI p)], [], (b1, b2), σ, m', l')) : WX (tL_law K 12) lwQ (902, [.retAddr 2000, .ref 0, .ref 199, .int (nI p)], [], (b1, b2), σ, m, l) := by
  have v1 := inN (v := p + 1) (n := xL K) (by omega) (by omega)
  have v2 := inN (v := p + 2) (n := xL K) (by omega) (by omega)
  have v3 := inN (v := p + 3) (n := xL K) (by omega) (by omega)
  have v4 := inN (v := p + 4) (n := xL K) (by omega) (by omega)
  have v5 := inN (v := p + 5) (n := xL K) (by omega) (by omega)
  have h5 := hw.1.1
  have h6 := hw.2.2.2.2.2.1.1
  simp only [xL_law_902, xL_law_903, xL_law_904, xL_law_905, xL_law_906, xL_law_907, xL_law_908, xL_law_909, xL_law_910, xL_law_911, xL_law_912, xL_law_913, xL_law_916, xL_law_917, xL_law_918, xL_law_919, xL_law_920, xL_law_921, xL_law_922, xL_law_923, xL_law_924, xL_law_925, xL_law_926, xL_law_927, xL_law_930, xL_law_933, xL_law_934, Bool.false_eq_true, if_true, if_false, kl_i, kl_a, kl_s, kl_u, kl_l, okS_nil, okS_cons, cat_i, cat_a, cat_s, cat_l, Nat.reduceAdd, Nat.reduceLeDiff, Nat.reduceSub, Nat.sub_zero, Nat.sub_self, Nat.zero_add, Nat.le_refl, Nat.zero_le, List.length_cons, List.length_nil, true_and, and_true, true_or, or_true, eq_self, forall_const, true_implies, not_true_eq_false, not_false_eq_true, false_implies, implies_true, false_and, and_false, false_or, or_false, ia1, ia2, ia3, ia4, ia5, v1, v2, v3, v4, v5, h5]
  refine (p_ask hw _ _ m l h).mono (Nat.le_refl _) (fun r σ1 m1 l1 hq => ?_)
  obtain ⟨e1, hc⟩ := hq
  subst e1
  refine ⟨h6, hc.mono (Nat.le_refl _) (fun r' σ2 m2 l2 hq2 => ?_)⟩
  obtain ⟨e2, e3, hR⟩ := hq2
  subst e2 e3
  exact ⟨fun _ => hK _ _ hR, fun g => absurd rfl g⟩
theorem w_trace {K : Cx} {σ : Sg} {m : Mm} {l : Ml} {p : Nat} {b1 b2 : Nat} (hw : WF σ) (h : RR m) (hp : p + 6 ≤ xL K) (hL : xL K ≤ 3072) (hK : ∀ m' l', RR m' → WX (tL_law K 12) lwQ (994, [.retAddr 2000, .ref 0, .ref 199, .int (nI p)], [], (b1, b2), σ, m', l')) : WX (tL_law K 12) lwQ (935, [.retAddr 2000, .ref 0, .ref 199, .int (nI p)], [], (b1, b2), σ, m, l) := by
  have v1 := inN (v := p + 1) (n := xL K) (by omega) (by omega)
  have v2 := inN (v := p + 2) (n := xL K) (by omega) (by omega)
  have v3 := inN (v := p + 3) (n := xL K) (by omega) (by omega)
  have v4 := inN (v := p + 4) (n := xL K) (by omega) (by omega)
  have v5 := inN (v := p + 5) (n := xL K) (by omega) (by omega)
  have h5 := hw.1.1
  have h6 := hw.2.2.2.2.2.1.1
  simp only [xL_law_935, xL_law_936, xL_law_937, xL_law_938, xL_law_939, xL_law_940, xL_law_941, xL_law_944, xL_law_945, xL_law_946, xL_law_947, xL_law_948, xL_law_949, xL_law_950, xL_law_953, xL_law_956, xL_law_957, Bool.false_eq_true, if_true, if_false, kl_i, kl_a, kl_s, kl_u, kl_l, okS_nil, okS_cons, cat_i, cat_a, cat_s, cat_l, Nat.reduceAdd, Nat.reduceLeDiff, Nat.reduceSub, Nat.sub_zero, Nat.sub_self, Nat.zero_add, Nat.le_refl, Nat.zero_le, List.length_cons, List.length_nil, true_and, and_true, true_or, or_true, eq_self, forall_const, true_implies, not_true_eq_false, not_false_eq_true, false_implies, implies_true, false_and, and_false, false_or, or_false, ia1, ia2, ia3, ia4, ia5, v1, v2, v3, v4, v5, h5]
  refine (p_trace hw _ m l h).mono (Nat.le_refl _) (fun r σ1 m1 l1 hq => ?_)
  obtain ⟨e1, hc⟩ := hq
  subst e1
  refine ⟨h6, hc.mono (Nat.le_refl _) (fun r' σ2 m2 l2 hq2 => ?_)⟩
  obtain ⟨e2, e3, hR⟩ := hq2
  subst e2 e3
  exact ⟨fun _ => hK _ _ hR, fun g => absurd rfl g⟩
theorem w_count {K : Cx} {σ : Sg} {m : Mm} {l : Ml} {p : Nat} {b1 b2 : Nat} (hw : WF σ) (h : RR m) (hp : p + 6 ≤ xL K) (hL : xL K ≤ 3072) (hK : ∀ m' l', RR m' → WX (tL_law K 12) lwQ (994, [.retAddr 2000, .ref 0, .ref 199, .int (nI p)], [], (b1, b2), σ, m', l')) : WX (tL_law K 12) lwQ (958, [.retAddr 2000, .ref 0, .ref 199, .int (nI p)], [], (b1, b2), σ, m, l) := by
  have v1 := inN (v := p + 1) (n := xL K) (by omega) (by omega)
  have v2 := inN (v := p + 2) (n := xL K) (by omega) (by omega)
  have v3 := inN (v := p + 3) (n := xL K) (by omega) (by omega)
  have v4 := inN (v := p + 4) (n := xL K) (by omega) (by omega)
  have v5 := inN (v := p + 5) (n := xL K) (by omega) (by omega)
  have h5 := hw.1.1
  have h6 := hw.2.2.2.2.2.1.1
  simp only [xL_law_958, xL_law_959, xL_law_960, xL_law_961, xL_law_962, xL_law_963, xL_law_964, xL_law_967, xL_law_968, xL_law_969, xL_law_970, xL_law_971, xL_law_972, xL_law_973, xL_law_976, xL_law_979, xL_law_980, Bool.false_eq_true, if_true, if_false, kl_i, kl_a, kl_s, kl_u, kl_l, okS_nil, okS_cons, cat_i, cat_a, cat_s, cat_l, Nat.reduceAdd, Nat.reduceLeDiff, Nat.reduceSub, Nat.sub_zero, Nat.sub_self, Nat.zero_add, Nat.le_refl, Nat.zero_le, List.length_cons, List.length_nil, true_and, and_true, true_or, or_true, eq_self, forall_const, true_implies, not_true_eq_false, not_false_eq_true, false_implies, implies_true, false_and, and_false, false_or, or_false, ia1, ia2, ia3, ia4, ia5, v1, v2, v3, v4, v5, h5]
  refine (p_count hw _ m l h).mono (Nat.le_refl _) (fun r σ1 m1 l1 hq => ?_)
  obtain ⟨e1, hc⟩ := hq
  subst e1
  refine ⟨h6, hc.mono (Nat.le_refl _) (fun r' σ2 m2 l2 hq2 => ?_)⟩
  obtain ⟨e2, e3, hR⟩ := hq2
  subst e2 e3
  exact ⟨fun _ => hK _ _ hR, fun g => absurd rfl g⟩
theorem w_status {K : Cx} {σ : Sg} {m : Mm} {l : Ml} {p : Nat} {b1 b2 : Nat} (hw : WF σ) (h : RR m) (hp : p + 6 ≤ xL K) (hL : xL K ≤ 3072) (hK : ∀ m' l', RR m' → WX (tL_law K 12) lwQ (994, [.retAddr 2000, .ref 0, .ref 199, .int (nI p)], [], (b1, b2), σ, m', l')) : WX (tL_law K 12) lwQ (981, [.retAddr 2000, .ref 0, .ref 199, .int (nI p)], [], (b1, b2), σ, m, l) := by
  have v1 := inN (v := p + 1) (n := xL K) (by omega) (by omega)
  have v2 := inN (v := p + 2) (n := xL K) (by omega) (by omega)
  have v3 := inN (v := p + 3) (n := xL K) (by omega) (by omega)
  have v4 := inN (v := p + 4) (n := xL K) (by omega) (by omega)
  have v5 := inN (v := p + 5) (n := xL K) (by omega) (by omega)
  have h5 := hw.1.1
  have h6 := hw.2.2.2.2.2.1.1
  simp only [xL_law_981, xL_law_982, xL_law_985, xL_law_986, xL_law_989, xL_law_992, xL_law_993, Bool.false_eq_true, if_true, if_false, kl_i, kl_a, kl_s, kl_u, kl_l, okS_nil, okS_cons, cat_i, cat_a, cat_s, cat_l, Nat.reduceAdd, Nat.reduceLeDiff, Nat.reduceSub, Nat.sub_zero, Nat.sub_self, Nat.zero_add, Nat.le_refl, Nat.zero_le, List.length_cons, List.length_nil, true_and, and_true, true_or, or_true, eq_self, forall_const, true_implies, not_true_eq_false, not_false_eq_true, false_implies, implies_true, false_and, and_false, false_or, or_false, ia1, ia2, ia3, ia4, ia5, v1, v2, v3, v4, v5, h5]
  refine (p_status hw m l h).mono (Nat.le_refl _) (fun r σ1 m1 l1 hq => ?_)
  obtain ⟨e1, hc⟩ := hq
  subst e1
  refine ⟨h6, hc.mono (Nat.le_refl _) (fun r' σ2 m2 l2 hq2 => ?_)⟩
  obtain ⟨e2, e3, hR⟩ := hq2
  subst e2 e3
  exact ⟨fun _ => hK _ _ hR, fun g => absurd rfl g⟩
theorem lw_cmp {L p : Nat} (hL : L ≤ 3072) (hp : p ≤ 4000) : (nI L - 6 < nI p) = (L < p + 6) := by
  refine propext ?_
  have h2 : (nI L - 6).toInt = (L : Int) - 6 := by
    rw [Int32.toInt_sub, nI_toInt (by omega), show (6 : Int32).toInt = 6 by decide]
    exact Int.bmod_eq_of_le (by omega) (by omega)
  rw [Int32.lt_iff_toInt_lt, h2, nI_toInt (by omega)]
  omega
theorem law_loop {K : Cx} {σ : Sg} {b1 b2 : Nat} (hw : WF σ) (hL : xL K ≤ 3072) : ∀ (k p : Nat) (m : Mm) (l : Ml), xL K < p + 6 * (k + 1) → p ≤ 4000 → RR m → WX (tL_law K 12) lwQ (18, [.retAddr 2000, .ref 0, .ref 199, .int (nI p)], [], (b1, b2), σ, m, l) := by
  intro k
  induction k with
  | zero =>
    intro p m l hk hp4 h
    have c1 : (nI (xL K) - 6 < nI p) = True := (lw_cmp hL hp4).trans (eq_true (by omega))
    rw [xL_law_18]
    simp only [xL_law_19, xL_law_20, xL_law_21, xL_law_23, xL_law_24, xL_law_1000, xL_law_1001, Bool.false_eq_true, if_true, if_false, kl_i, kl_a, kl_s, kl_u, kl_l, okS_nil, okS_cons, cat_i, cat_a, cat_s, cat_l, Nat.reduceAdd, Nat.reduceLeDiff, Nat.reduceSub, Nat.sub_zero, Nat.sub_self, Nat.zero_add, Nat.le_refl, Nat.zero_le, List.length_cons, List.length_nil, true_and, and_true, true_or, or_true, eq_self, forall_const, true_implies, not_true_eq_false, not_false_eq_true, false_implies, implies_true, false_and, and_false, false_or, or_false, c1]
    exact rfl
  | succ k ih =>
    intro p m l hk hp4 h
    by_cases hp : p + 6 ≤ xL K
    · have c1 : (nI (xL K) - 6 < nI p) = False := (lw_cmp hL hp4).trans (eq_false (by omega))
      have v0 := inN (v := p) (n := xL K) (by omega) (by omega)
      have cont : ∀ m' l', RR m' → WX (tL_law K 12) lwQ (994, [.retAddr 2000, .ref 0, .ref 199, .int (nI p)], [], (b1, b2), σ, m', l') := by
        intro m' l' h'
        simp only [xL_law_994, xL_law_997, Bool.false_eq_true, if_true, if_false, kl_i, kl_a, kl_s, kl_u, kl_l, okS_nil, okS_cons, cat_i, cat_a, cat_s, cat_l, Nat.reduceAdd, Nat.reduceLeDiff, Nat.reduceSub, Nat.sub_zero, Nat.sub_self, Nat.zero_add, Nat.le_refl, Nat.zero_le, List.length_cons, List.length_nil, true_and, and_true, true_or, or_true, eq_self, forall_const, true_implies, not_true_eq_false, not_false_eq_true, false_implies, implies_true, false_and, and_false, false_or, or_false, ia6]
        exact ih (p + 6) m' l' (by omega) (by omega) h'
      rw [xL_law_18]
      simp only [xL_law_19, xL_law_20, xL_law_21, xL_law_23, xL_law_24, xL_law_27, xL_law_28, xL_law_29, xL_law_30, xL_law_32, xL_law_33, Bool.false_eq_true, if_true, if_false, kl_i, kl_a, kl_s, kl_u, kl_l, okS_nil, okS_cons, cat_i, cat_a, cat_s, cat_l, Nat.reduceAdd, Nat.reduceLeDiff, Nat.reduceSub, Nat.sub_zero, Nat.sub_self, Nat.zero_add, Nat.le_refl, Nat.zero_le, List.length_cons, List.length_nil, true_and, and_true, true_or, or_true, eq_self, forall_const, true_implies, not_true_eq_false, not_false_eq_true, false_implies, implies_true, false_and, and_false, false_or, or_false, c1, v0]
      exact ⟨fun _ => w_row hw h hp hL cont, fun _ => ⟨fun _ => w_set hw h hp hL cont, fun _ => ⟨fun _ => w_copy hw h hp hL cont, fun _ => ⟨fun _ => w_drop hw h hp hL cont, fun _ => ⟨fun _ => w_feed hw h hp hL cont, fun _ => ⟨fun _ => w_plain hw h hp hL cont, fun _ => ⟨fun _ => w_fault hw h hp hL cont, fun _ => ⟨fun _ => w_day hw h hp hL cont, fun _ => ⟨fun _ => w_weather hw h hp hL cont, fun _ => ⟨fun _ => w_guard hw h hp hL cont, fun _ => ⟨fun _ => w_undo hw h hp hL cont, fun _ => ⟨fun _ => w_village hw h hp hL cont, fun _ => ⟨fun _ => w_ahead hw h hp hL cont, fun _ => ⟨fun _ => w_first hw h hp hL cont, fun _ => ⟨fun _ => w_rest hw h hp hL cont, fun _ => ⟨fun _ => w_most hw h hp hL cont, fun _ => ⟨fun _ => w_guards hw h hp hL cont, fun _ => ⟨fun _ => w_drew hw h hp hL cont, fun _ => ⟨fun _ => w_where hw h hp hL cont, fun _ => ⟨fun _ => w_wed hw h hp hL cont, fun _ => ⟨fun _ => w_image hw h hp hL cont, fun _ => ⟨fun _ => w_restore hw h hp hL cont, fun _ => ⟨fun _ => w_kind hw h hp hL cont, fun _ => ⟨fun _ => w_as hw h hp hL cont, fun _ => ⟨fun _ => w_ask hw h hp hL cont, fun _ => ⟨fun _ => w_trace hw h hp hL cont, fun _ => ⟨fun _ => w_count hw h hp hL cont, fun _ => ⟨fun _ => w_status hw h hp hL cont, fun _ => cont m l h⟩⟩⟩⟩⟩⟩⟩⟩⟩⟩⟩⟩⟩⟩⟩⟩⟩⟩⟩⟩⟩⟩⟩⟩⟩⟩⟩⟩
    · have c1 : (nI (xL K) - 6 < nI p) = True := (lw_cmp hL hp4).trans (eq_true (by omega))
      rw [xL_law_18]
      simp only [xL_law_19, xL_law_20, xL_law_21, xL_law_23, xL_law_24, xL_law_1000, xL_law_1001, Bool.false_eq_true, if_true, if_false, kl_i, kl_a, kl_s, kl_u, kl_l, okS_nil, okS_cons, cat_i, cat_a, cat_s, cat_l, Nat.reduceAdd, Nat.reduceLeDiff, Nat.reduceSub, Nat.sub_zero, Nat.sub_self, Nat.zero_add, Nat.le_refl, Nat.zero_le, List.length_cons, List.length_nil, true_and, and_true, true_or, or_true, eq_self, forall_const, true_implies, not_true_eq_false, not_false_eq_true, false_implies, implies_true, false_and, and_false, false_or, or_false, c1]
      exact rfl
theorem RR_0 : RR (szM 8) := by
  have z : ∀ a, a ≠ 201 → szM 8 a = fun _ => 0 := fun a ha => by
    funext j
    exact if_neg (fun g => ha g.1)
  have e0 : (0 : Int32) = nI 0 := rfl
  refine ⟨fun r hr => Or.inl ⟨?_, if_pos ⟨rfl, hr⟩⟩, rfl, rfl, ⟨0, fun _ => 0, 0, ⟨by omega, fun k hk => by omega⟩, ⟨by omega, fun k hk => by omega⟩, rfl, rfl, rfl⟩, ⟨0, 0, 0, by omega, ?_, ⟨0, 0, 0, rfl, by omega, rfl, by omega, rfl, by omega, fun w hw => by omega⟩, rfl, fun _ => ⟨rfl, rfl⟩, by omega, by omega, rfl, rfl, rfl, fun i hi => by omega⟩, fun k hk => ⟨?_, Or.inl ?_, fun g => ?_⟩, ⟨0, by omega, rfl, rfl, fun i hi => by omega⟩⟩
  · rw [z _ (by omega)]
  · exact ⟨⟨rfl, rfl, rfl, rfl, rfl, fun v hv => by omega, fun v hv => by omega⟩, rfl, Or.inl rfl⟩
  · rw [z _ (by omega), z _ (by omega)]
  · rw [z _ (by omega)]
  · rw [z _ (by omega)] at g
    have g' : (0 : Int32) = 1 := g
    exact absurd g' (by decide)
def sg0 : Sg := (0, fun _ => (0, 0), fun _ _ => .null)
theorem law_start {K : Cx} (hL : xL K ≤ 3072) : WX (tL_law K 12) lwQ (0, [.retAddr 2000, .float 0, .float 0, .float 0], [], (212, 4103), sg0, zM, zL) := by
  have e0 : sg0.1 = 0 := rfl
  simp only [xL_law_0, xL_law_3, xL_law_4, Bool.false_eq_true, if_true, if_false, kl_i, kl_a, kl_s, kl_u, kl_l, okS_nil, okS_cons, cat_i, cat_a, cat_s, cat_l, Nat.reduceAdd, Nat.reduceLeDiff, Nat.reduceSub, Nat.sub_zero, Nat.sub_self, Nat.zero_add, Nat.le_refl, Nat.zero_le, List.length_cons, List.length_nil, true_and, and_true, true_or, or_true, eq_self, forall_const, true_implies, not_true_eq_false, not_false_eq_true, false_implies, implies_true, false_and, and_false, false_or, or_false, e0, zeM_z, zeL_z]
  refine c_X5 (d := 9) rfl (isO_N 5 10 e0) (fun s e wN wR wT wA wL wI => ?_)
  simp only [xL_law_7, xL_law_8, xL_law_11, xL_law_12, Bool.false_eq_true, if_true, if_false, kl_i, kl_a, kl_s, kl_u, kl_l, okS_nil, okS_cons, cat_i, cat_a, cat_s, cat_l, Nat.reduceAdd, Nat.reduceLeDiff, Nat.reduceSub, Nat.sub_zero, Nat.sub_self, Nat.zero_add, Nat.le_refl, Nat.zero_le, List.length_cons, List.length_nil, true_and, and_true, true_or, or_true, eq_self, forall_const, true_implies, not_true_eq_false, not_false_eq_true, false_implies, implies_true, false_and, and_false, false_or, or_false, e, zeM_z, zeL_z]
  refine c_X6 (d := 11) (by rw [N_1, e]) (isO_N 6 23 e) (fun t wM S f => ?_)
  simp only [xL_law_15, xL_law_16, xL_law_17, Bool.false_eq_true, if_true, if_false, kl_i, kl_a, kl_s, kl_u, kl_l, okS_nil, okS_cons, cat_i, cat_a, cat_s, cat_l, Nat.reduceAdd, Nat.reduceLeDiff, Nat.reduceSub, Nat.sub_zero, Nat.sub_self, Nat.zero_add, Nat.le_refl, Nat.zero_le, List.length_cons, List.length_nil, true_and, and_true, true_or, or_true, eq_self, forall_const, true_implies, not_true_eq_false, not_false_eq_true, false_implies, implies_true, false_and, and_false, false_or, or_false]
  have S' : smS s t 0 199 := smS_t (smN s 6 23 (by omega)) S
  exact law_loop ⟨wfN_s S' (by omega) wN, wfR_s (smS_w S' (by omega) (by omega)) (by omega) wR, ob1_s (p := 31) (smS_w S' (by omega) (by omega)) (by omega) wT, wfA_s (smS_w S' (by omega) (by omega)) (by omega) wA, ob1_s (p := 197) (smS_w S' (by omega) (by omega)) (by omega) wL, wM, wfI_s (smS_w S' (by omega) (by omega)) (by omega) wI⟩ hL 512 0 _ _ (by omega) (by omega) RR_0
