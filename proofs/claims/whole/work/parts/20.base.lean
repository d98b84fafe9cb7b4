/-! what walks need: small equations, a plain's place -/
theorem okS_nil (n : Nat) : okS n [] = (n ≤ 8) := rfl
theorem okS_cons (n : Nat) (v : Value) (st : List Value) : okS n (v :: st) = okS (n + v.category) st := rfl
theorem cat_i (x : Int32) : (Value.int x).category = 1 := rfl
theorem cat_a (x : Nat) : (Value.ref x).category = 1 := rfl
theorem cat_s (x : Nat) : (Value.retAddr x).category = 1 := rfl
theorem cat_l (x : Int64) : (Value.long x).category = 2 := rfl
/-- a plain at p: its object, its five rows -/
def isP (σ : Sg) (p : Nat) : Prop := isO σ p 1 ∧ rf σ p 0 = .ref (p + 1) ∧ rf σ p 1 = .ref (p + 2) ∧ rf σ p 2 = .ref (p + 3) ∧ rf σ p 3 = .ref (p + 4) ∧ rf σ p 4 = .ref (p + 5) ∧
  isO σ (p + 1) 100 ∧ isO σ (p + 2) 100 ∧ isO σ (p + 3) 100 ∧ isO σ (p + 4) 100 ∧ isO σ (p + 5) 100 ∧ ln σ (p + 1) = 7 ∧ ln σ (p + 2) = 7 ∧ ln σ (p + 3) = 7 ∧ ln σ (p + 4) = 7 ∧ ln σ (p + 5) = 7
/-- what a plain holds: row 0 its own fields (told 5, night 6, room 7, villages 8, days 9, guarding 10), rows 1 to 5 kinds, fills, flows, needs, lacks -/
def getP (m : Mm) (p : Nat) : Mm := fun j => m (p + j)
def putP (m : Mm) (p : Nat) (q : Mm) : Mm := fun b => if p ≤ b ∧ b < p + 6 then q (b - p) else m b
theorem putP_get (m : Mm) (p : Nat) : putP m p (getP m p) = m := by
  funext b
  simp only [putP, getP]
  split
  · next h => rw [show p + (b - p) = b by omega]
  · rfl
theorem putP_at (m : Mm) (p : Nat) (q : Mm) {j : Nat} (h : j < 6) : putP m p q (p + j) = q j := by
  simp only [putP]
  rw [if_pos (by omega), Nat.add_sub_cancel_left]
theorem putP_0 (m : Mm) (p : Nat) (q : Mm) : putP m p q p = q 0 := putP_at m p q (j := 0) (by omega)
theorem putP_1 (m : Mm) (p : Nat) (q : Mm) : putP m p q (p + 1) = q 1 := putP_at m p q (by omega)
theorem putP_2 (m : Mm) (p : Nat) (q : Mm) : putP m p q (p + 2) = q 2 := putP_at m p q (by omega)
theorem putP_3 (m : Mm) (p : Nat) (q : Mm) : putP m p q (p + 3) = q 3 := putP_at m p q (by omega)
theorem putP_4 (m : Mm) (p : Nat) (q : Mm) : putP m p q (p + 4) = q 4 := putP_at m p q (by omega)
theorem putP_5 (m : Mm) (p : Nat) (q : Mm) : putP m p q (p + 5) = q 5 := putP_at m p q (by omega)
theorem upM_putP (m : Mm) (p : Nat) (q : Mm) {j : Nat} (h : j < 6) (k : Nat) (x : Int32) : upM (putP m p q) (p + j) k x = putP m p (upM q j k x) := by
  funext b
  by_cases hb : b = p + j
  · subst hb
    rw [upM_s, putP_at m p q h, putP_at m p _ h, upM_s]
  · rw [upM_n _ k x hb]
    simp only [putP]
    split
    · next g => rw [upM_n _ k x (by omega)]
    · rfl
theorem uputP_0 (m : Mm) (p : Nat) (q : Mm) (k : Nat) (x : Int32) : upM (putP m p q) p k x = putP m p (upM q 0 k x) := upM_putP m p q (j := 0) (by omega) k x
theorem uputP_1 (m : Mm) (p : Nat) (q : Mm) (k : Nat) (x : Int32) : upM (putP m p q) (p + 1) k x = putP m p (upM q 1 k x) := upM_putP m p q (by omega) k x
theorem uputP_2 (m : Mm) (p : Nat) (q : Mm) (k : Nat) (x : Int32) : upM (putP m p q) (p + 2) k x = putP m p (upM q 2 k x) := upM_putP m p q (by omega) k x
theorem uputP_3 (m : Mm) (p : Nat) (q : Mm) (k : Nat) (x : Int32) : upM (putP m p q) (p + 3) k x = putP m p (upM q 3 k x) := upM_putP m p q (by omega) k x
theorem uputP_4 (m : Mm) (p : Nat) (q : Mm) (k : Nat) (x : Int32) : upM (putP m p q) (p + 4) k x = putP m p (upM q 4 k x) := upM_putP m p q (by omega) k x
theorem uputP_5 (m : Mm) (p : Nat) (q : Mm) (k : Nat) (x : Int32) : upM (putP m p q) (p + 5) k x = putP m p (upM q 5 k x) := upM_putP m p q (by omega) k x
theorem putP_putP (m : Mm) (p : Nat) (q q2 : Mm) : putP (putP m p q) p q2 = putP m p q2 := by
  funext b
  simp only [putP]
  split <;> rfl
theorem getP_putP (m : Mm) (p : Nat) (q : Mm) {j : Nat} (h : j < 6) : getP (putP m p q) p j = q j := putP_at m p q h
/-- a row of a plain replaced -/
def setR (q : Mm) (j : Nat) (f : Nat → Int32) : Mm := fun b => if b = j then f else q b
theorem upM_setR (q : Mm) (j k : Nat) (x : Int32) : upM q j k x = setR q j (upd (q j) k x) := rfl
theorem setR_setR (q : Mm) (j : Nat) (f g : Nat → Int32) : setR (setR q j f) j g = setR q j g := by
  funext b
  simp only [setR]
  split <;> rfl
theorem setR_id (q : Mm) (j : Nat) : setR q j (q j) = q := by
  funext b
  simp only [setR]
  split
  · next h => rw [h]
  · rfl
theorem setR_n (q : Mm) {j b : Nat} (f : Nat → Int32) (h : b ≠ j) : setR q j f b = q b := if_neg h
theorem setR_s (q : Mm) (j : Nat) (f : Nat → Int32) : setR q j f j = f := if_pos rfl
theorem setR_comm (q : Mm) {i j : Nat} (f g : Nat → Int32) (h : i ≠ j) : setR (setR q i f) j g = setR (setR q j g) i f := by
  funext b
  simp only [setR]
  by_cases h1 : b = i
  · subst h1
    simp [h]
  · simp [h1]
theorem sr00 (q : Mm) (f : Nat → Int32) : setR q 0 f 0 = f := rfl
theorem sr01 (q : Mm) (f : Nat → Int32) : setR q 0 f 1 = q 1 := rfl
theorem sr02 (q : Mm) (f : Nat → Int32) : setR q 0 f 2 = q 2 := rfl
theorem sr03 (q : Mm) (f : Nat → Int32) : setR q 0 f 3 = q 3 := rfl
theorem sr04 (q : Mm) (f : Nat → Int32) : setR q 0 f 4 = q 4 := rfl
theorem sr05 (q : Mm) (f : Nat → Int32) : setR q 0 f 5 = q 5 := rfl
theorem sr10 (q : Mm) (f : Nat → Int32) : setR q 1 f 0 = q 0 := rfl
theorem sr11 (q : Mm) (f : Nat → Int32) : setR q 1 f 1 = f := rfl
theorem sr12 (q : Mm) (f : Nat → Int32) : setR q 1 f 2 = q 2 := rfl
theorem sr13 (q : Mm) (f : Nat → Int32) : setR q 1 f 3 = q 3 := rfl
theorem sr14 (q : Mm) (f : Nat → Int32) : setR q 1 f 4 = q 4 := rfl
theorem sr15 (q : Mm) (f : Nat → Int32) : setR q 1 f 5 = q 5 := rfl
theorem sr20 (q : Mm) (f : Nat → Int32) : setR q 2 f 0 = q 0 := rfl
theorem sr21 (q : Mm) (f : Nat → Int32) : setR q 2 f 1 = q 1 := rfl
theorem sr22 (q : Mm) (f : Nat → Int32) : setR q 2 f 2 = f := rfl
theorem sr23 (q : Mm) (f : Nat → Int32) : setR q 2 f 3 = q 3 := rfl
theorem sr24 (q : Mm) (f : Nat → Int32) : setR q 2 f 4 = q 4 := rfl
theorem sr25 (q : Mm) (f : Nat → Int32) : setR q 2 f 5 = q 5 := rfl
theorem sr30 (q : Mm) (f : Nat → Int32) : setR q 3 f 0 = q 0 := rfl
theorem sr31 (q : Mm) (f : Nat → Int32) : setR q 3 f 1 = q 1 := rfl
theorem sr32 (q : Mm) (f : Nat → Int32) : setR q 3 f 2 = q 2 := rfl
theorem sr33 (q : Mm) (f : Nat → Int32) : setR q 3 f 3 = f := rfl
theorem sr34 (q : Mm) (f : Nat → Int32) : setR q 3 f 4 = q 4 := rfl
theorem sr35 (q : Mm) (f : Nat → Int32) : setR q 3 f 5 = q 5 := rfl
theorem sr40 (q : Mm) (f : Nat → Int32) : setR q 4 f 0 = q 0 := rfl
theorem sr41 (q : Mm) (f : Nat → Int32) : setR q 4 f 1 = q 1 := rfl
theorem sr42 (q : Mm) (f : Nat → Int32) : setR q 4 f 2 = q 2 := rfl
theorem sr43 (q : Mm) (f : Nat → Int32) : setR q 4 f 3 = q 3 := rfl
theorem sr44 (q : Mm) (f : Nat → Int32) : setR q 4 f 4 = f := rfl
theorem sr45 (q : Mm) (f : Nat → Int32) : setR q 4 f 5 = q 5 := rfl
theorem sr50 (q : Mm) (f : Nat → Int32) : setR q 5 f 0 = q 0 := rfl
theorem sr51 (q : Mm) (f : Nat → Int32) : setR q 5 f 1 = q 1 := rfl
theorem sr52 (q : Mm) (f : Nat → Int32) : setR q 5 f 2 = q 2 := rfl
theorem sr53 (q : Mm) (f : Nat → Int32) : setR q 5 f 3 = q 3 := rfl
theorem sr54 (q : Mm) (f : Nat → Int32) : setR q 5 f 4 = q 4 := rfl
theorem sr55 (q : Mm) (f : Nat → Int32) : setR q 5 f 5 = f := rfl
theorem sc20 (q : Mm) (f g : Nat → Int32) : setR (setR q 2 f) 0 g = setR (setR q 0 g) 2 f := setR_comm q f g (by decide)
theorem sc50 (q : Mm) (f g : Nat → Int32) : setR (setR q 5 f) 0 g = setR (setR q 0 g) 5 f := setR_comm q f g (by decide)
theorem sc52 (q : Mm) (f g : Nat → Int32) : setR (setR q 5 f) 2 g = setR (setR q 2 g) 5 f := setR_comm q f g (by decide)
theorem vputP_0 (m : Mm) (p : Nat) (q : Mm) (k : Nat) (x : Int32) : upM (putP m p q) p k x = putP m p (setR q 0 (upd (q 0) k x)) := uputP_0 m p q k x
theorem vputP_1 (m : Mm) (p : Nat) (q : Mm) (k : Nat) (x : Int32) : upM (putP m p q) (p + 1) k x = putP m p (setR q 1 (upd (q 1) k x)) := uputP_1 m p q k x
theorem vputP_2 (m : Mm) (p : Nat) (q : Mm) (k : Nat) (x : Int32) : upM (putP m p q) (p + 2) k x = putP m p (setR q 2 (upd (q 2) k x)) := uputP_2 m p q k x
theorem vputP_3 (m : Mm) (p : Nat) (q : Mm) (k : Nat) (x : Int32) : upM (putP m p q) (p + 3) k x = putP m p (setR q 3 (upd (q 3) k x)) := uputP_3 m p q k x
theorem vputP_4 (m : Mm) (p : Nat) (q : Mm) (k : Nat) (x : Int32) : upM (putP m p q) (p + 4) k x = putP m p (setR q 4 (upd (q 4) k x)) := uputP_4 m p q k x
theorem vputP_5 (m : Mm) (p : Nat) (q : Mm) (k : Nat) (x : Int32) : upM (putP m p q) (p + 5) k x = putP m p (setR q 5 (upd (q 5) k x)) := uputP_5 m p q k x
theorem sc25 (q : Mm) (f g : Nat → Int32) : setR (setR q 2 f) 5 g = setR (setR q 5 g) 2 f := setR_comm q f g (by decide)
theorem sc05 (q : Mm) (f g : Nat → Int32) : setR (setR q 0 f) 5 g = setR (setR q 5 g) 0 f := setR_comm q f g (by decide)
theorem sc02 (q : Mm) (f g : Nat → Int32) : setR (setR q 0 f) 2 g = setR (setR q 2 g) 0 f := setR_comm q f g (by decide)
theorem upd_s (f : Nat → Int32) (k : Nat) (x : Int32) : upd f k x k = x := if_pos rfl
theorem upd_n (f : Nat → Int32) {k j : Nat} (x : Int32) (h : j ≠ k) : upd f k x j = f j := if_neg h
theorem clN {v : Nat} (h : v < 2147483648) : (nI v).toNatClampNeg = v := nI_clamp h
theorem inN {v n : Nat} (h : v < n) (hn : n < 2147483648) : vp_in (nI v) n := vp_in_nI h hn
theorem ltN {a b : Nat} (ha : a < 2147483648) (hb : b < 2147483648) : (nI a < nI b) = (a < b) := propext (nI_ltI ha hb)
theorem eqN {a b : Nat} (ha : a < 2147483648) (hb : b < 2147483648) : (nI a = nI b) = (a = b) := propext (nI_eq ha hb)
theorem nI1 (v : Nat) : nI v + 1 = nI (v + 1) := (nI_succ v).symm
theorem i01 : ((0 : Int32) = 1) = False := eq_false (by decide)
theorem i02 : ((0 : Int32) = 2) = False := eq_false (by decide)
theorem i03 : ((0 : Int32) = 3) = False := eq_false (by decide)
theorem i04 : ((0 : Int32) = 4) = False := eq_false (by decide)
theorem i05 : ((0 : Int32) = 5) = False := eq_false (by decide)
theorem i10 : ((1 : Int32) = 0) = False := eq_false (by decide)
theorem i12 : ((1 : Int32) = 2) = False := eq_false (by decide)
theorem i13 : ((1 : Int32) = 3) = False := eq_false (by decide)
theorem i14 : ((1 : Int32) = 4) = False := eq_false (by decide)
theorem i15 : ((1 : Int32) = 5) = False := eq_false (by decide)
theorem i20 : ((2 : Int32) = 0) = False := eq_false (by decide)
theorem i21 : ((2 : Int32) = 1) = False := eq_false (by decide)
theorem i23 : ((2 : Int32) = 3) = False := eq_false (by decide)
theorem i24 : ((2 : Int32) = 4) = False := eq_false (by decide)
theorem i25 : ((2 : Int32) = 5) = False := eq_false (by decide)
theorem i30 : ((3 : Int32) = 0) = False := eq_false (by decide)
theorem i31 : ((3 : Int32) = 1) = False := eq_false (by decide)
theorem i32 : ((3 : Int32) = 2) = False := eq_false (by decide)
theorem i34 : ((3 : Int32) = 4) = False := eq_false (by decide)
theorem i35 : ((3 : Int32) = 5) = False := eq_false (by decide)
theorem i40 : ((4 : Int32) = 0) = False := eq_false (by decide)
theorem i41 : ((4 : Int32) = 1) = False := eq_false (by decide)
theorem i42 : ((4 : Int32) = 2) = False := eq_false (by decide)
theorem i43 : ((4 : Int32) = 3) = False := eq_false (by decide)
theorem i45 : ((4 : Int32) = 5) = False := eq_false (by decide)
theorem i50 : ((5 : Int32) = 0) = False := eq_false (by decide)
theorem i51 : ((5 : Int32) = 1) = False := eq_false (by decide)
theorem i52 : ((5 : Int32) = 2) = False := eq_false (by decide)
theorem i53 : ((5 : Int32) = 3) = False := eq_false (by decide)
theorem i54 : ((5 : Int32) = 4) = False := eq_false (by decide)
/-- guards -/
def gd (g : Int32) (v : Int32) : Bool := decide ((g >>> (v &&& 31)) &&& 1 = 1)
theorem gd_f (g v : Int32) : ((g >>> (v &&& 31)) &&& 1 = 1) = (gd g v = true) := by simp [gd]
theorem t_has {K : Cx} {d : Nat} {σ : Sg} {m : Mm} {l : Ml} {p : Nat} {v : Int32} {Q : Rt} (hp : isO σ p 1) (hQ : Q (if ¬ v < 0 ∧ v < m p 8 then 1 else 0) σ m l) : CT K (d + 1) YX1_has [.ref p, .int v] σ m l Q := by
  refine kX1_has ?_
  simp only [xX1_has_0, xX1_has_1, xX1_has_4, xX1_has_5, xX1_has_6, xX1_has_9, xX1_has_12, xX1_has_13, xX1_has_16, xX1_has_17, Bool.false_eq_true, if_true, if_false, kl_i, kl_a, kl_s, kl_u, kl_l, okS_nil, okS_cons, cat_i, cat_a, cat_s, cat_l, Nat.reduceAdd, Nat.reduceLeDiff, Nat.reduceSub, Nat.sub_zero, Nat.sub_self, Nat.zero_add, Nat.le_refl, Nat.zero_le, List.length_cons, List.length_nil, true_and, and_true, true_or, or_true, eq_self, forall_const, true_implies, not_true_eq_false, not_false_eq_true, false_implies, implies_true, false_and, and_false, false_or, or_false, hp]
  by_cases h : v < 0
  · simp only [h, Bool.false_eq_true, if_true, if_false, kl_i, kl_a, kl_s, kl_u, kl_l, okS_nil, okS_cons, cat_i, cat_a, cat_s, cat_l, Nat.reduceAdd, Nat.reduceLeDiff, Nat.reduceSub, Nat.sub_zero, Nat.sub_self, Nat.zero_add, Nat.le_refl, Nat.zero_le, List.length_cons, List.length_nil, true_and, and_true, true_or, or_true, eq_self, forall_const, true_implies, not_true_eq_false, not_false_eq_true, false_implies, implies_true, false_and, and_false, false_or, or_false] at hQ ⊢
    exact hQ
  · by_cases h2 : v < m p 8 <;> simp only [h, h2, Bool.false_eq_true, if_true, if_false, kl_i, kl_a, kl_s, kl_u, kl_l, okS_nil, okS_cons, cat_i, cat_a, cat_s, cat_l, Nat.reduceAdd, Nat.reduceLeDiff, Nat.reduceSub, Nat.sub_zero, Nat.sub_self, Nat.zero_add, Nat.le_refl, Nat.zero_le, List.length_cons, List.length_nil, true_and, and_true, true_or, or_true, eq_self, forall_const, true_implies, not_true_eq_false, not_false_eq_true, false_implies, implies_true, false_and, and_false, false_or, or_false] at hQ ⊢ <;> exact hQ
theorem t_isGuarding {K : Cx} {d : Nat} {σ : Sg} {m : Mm} {l : Ml} {p : Nat} {v : Int32} {Q : Rt} (hp : isO σ p 1) (hQ : Q (if gd (m p 10) v then 1 else 0) σ m l) : CT K (d + 1) YX1_isGuarding [.ref p, .int v] σ m l Q := by
  refine kX1_isGuarding ?_
  simp only [xX1_isGuarding_0, xX1_isGuarding_1, xX1_isGuarding_4, xX1_isGuarding_5, xX1_isGuarding_6, xX1_isGuarding_7, xX1_isGuarding_8, xX1_isGuarding_9, xX1_isGuarding_12, xX1_isGuarding_13, xX1_isGuarding_16, xX1_isGuarding_17, Bool.false_eq_true, if_true, if_false, kl_i, kl_a, kl_s, kl_u, kl_l, okS_nil, okS_cons, cat_i, cat_a, cat_s, cat_l, Nat.reduceAdd, Nat.reduceLeDiff, Nat.reduceSub, Nat.sub_zero, Nat.sub_self, Nat.zero_add, Nat.le_refl, Nat.zero_le, List.length_cons, List.length_nil, true_and, and_true, true_or, or_true, eq_self, forall_const, true_implies, not_true_eq_false, not_false_eq_true, false_implies, implies_true, false_and, and_false, false_or, or_false, hp, gd_f]
  cases h : gd (m p 10) v <;> simp only [h, Bool.false_eq_true, if_true, if_false, kl_i, kl_a, kl_s, kl_u, kl_l, okS_nil, okS_cons, cat_i, cat_a, cat_s, cat_l, Nat.reduceAdd, Nat.reduceLeDiff, Nat.reduceSub, Nat.sub_zero, Nat.sub_self, Nat.zero_add, Nat.le_refl, Nat.zero_le, List.length_cons, List.length_nil, true_and, and_true, true_or, or_true, eq_self, forall_const, true_implies, not_true_eq_false, not_false_eq_true, false_implies, implies_true, false_and, and_false, false_or, or_false] at hQ ⊢ <;> exact hQ
theorem t_isWatched {K : Cx} {d : Nat} {σ : Sg} {m : Mm} {l : Ml} {p : Nat} {v : Int32} {Q : Rt} (hp : isP σ p) (hv : vp_in v 7) (hQ : Q (if gd (m p 10) v ∨ m (p + 1) v.toNatClampNeg = 5 then 1 else 0) σ m l) : CT K (d + 2) YX1_isWatched [.ref p, .int v] σ m l Q := by
  obtain ⟨hO, r0, r1, r2, r3, r4, o1, o2, o3, o4, o5, l1, l2, l3, l4, l5⟩ := hp
  refine kX1_isWatched ?_
  simp only [xX1_isWatched_0, xX1_isWatched_1, xX1_isWatched_2, xX1_isWatched_5, xX1_isWatched_8, xX1_isWatched_9, xX1_isWatched_12, xX1_isWatched_13, xX1_isWatched_14, xX1_isWatched_15, xX1_isWatched_18, xX1_isWatched_19, xX1_isWatched_22, xX1_isWatched_23, Bool.false_eq_true, if_true, if_false, kl_i, kl_a, kl_s, kl_u, kl_l, okS_nil, okS_cons, cat_i, cat_a, cat_s, cat_l, Nat.reduceAdd, Nat.reduceLeDiff, Nat.reduceSub, Nat.sub_zero, Nat.sub_self, Nat.zero_add, Nat.le_refl, Nat.zero_le, List.length_cons, List.length_nil, true_and, and_true, true_or, or_true, eq_self, forall_const, true_implies, not_true_eq_false, not_false_eq_true, false_implies, implies_true, false_and, and_false, false_or, or_false, hO, r0, o1, l1, hv]
  refine t_isGuarding hO ?_
  cases h : gd (m p 10) v
  · by_cases h2 : m (p + 1) v.toNatClampNeg = 5 <;> simp only [h, h2, xX1_isWatched_0, xX1_isWatched_1, xX1_isWatched_2, xX1_isWatched_5, xX1_isWatched_8, xX1_isWatched_9, xX1_isWatched_12, xX1_isWatched_13, xX1_isWatched_14, xX1_isWatched_15, xX1_isWatched_18, xX1_isWatched_19, xX1_isWatched_22, xX1_isWatched_23, Bool.false_eq_true, if_true, if_false, kl_i, kl_a, kl_s, kl_u, kl_l, okS_nil, okS_cons, cat_i, cat_a, cat_s, cat_l, Nat.reduceAdd, Nat.reduceLeDiff, Nat.reduceSub, Nat.sub_zero, Nat.sub_self, Nat.zero_add, Nat.le_refl, Nat.zero_le, List.length_cons, List.length_nil, true_and, and_true, true_or, or_true, eq_self, forall_const, true_implies, not_true_eq_false, not_false_eq_true, false_implies, implies_true, false_and, and_false, false_or, or_false, hO, r0, o1, l1, hv] at hQ ⊢ <;> exact hQ
  · simp only [h, xX1_isWatched_0, xX1_isWatched_1, xX1_isWatched_2, xX1_isWatched_5, xX1_isWatched_8, xX1_isWatched_9, xX1_isWatched_12, xX1_isWatched_13, xX1_isWatched_14, xX1_isWatched_15, xX1_isWatched_18, xX1_isWatched_19, xX1_isWatched_22, xX1_isWatched_23, Bool.false_eq_true, if_true, if_false, kl_i, kl_a, kl_s, kl_u, kl_l, okS_nil, okS_cons, cat_i, cat_a, cat_s, cat_l, Nat.reduceAdd, Nat.reduceLeDiff, Nat.reduceSub, Nat.sub_zero, Nat.sub_self, Nat.zero_add, Nat.le_refl, Nat.zero_le, List.length_cons, List.length_nil, true_and, and_true, true_or, or_true, eq_self, forall_const, true_implies, not_true_eq_false, not_false_eq_true, false_implies, implies_true, false_and, and_false, false_or, or_false, hO, r0, o1, l1, hv, i10] at hQ ⊢
    exact hQ
/-- what one wants by night, by its kind -/
def wantK (k n : Int32) : Int32 := if k = 2 then n / 2 else if k = 3 then 0 else if k = 4 then n * 2 else n
theorem t_wants {K : Cx} {d : Nat} {σ : Sg} {m : Mm} {l : Ml} {p : Nat} {v : Int32} {Q : Rt} (hp : isP σ p) (hv : vp_in v 7) (hQ : Q (wantK (m (p + 1) v.toNatClampNeg) (m p 6)) σ m l) : CT K (d + 1) YX1_wants [.ref p, .int v] σ m l Q := by
  obtain ⟨hO, r0, r1, r2, r3, r4, o1, o2, o3, o4, o5, l1, l2, l3, l4, l5⟩ := hp
  refine kX1_wants ?_
  simp only [xX1_wants_0, xX1_wants_1, xX1_wants_4, xX1_wants_5, xX1_wants_6, xX1_wants_32, xX1_wants_33, xX1_wants_36, xX1_wants_37, xX1_wants_38, xX1_wants_39, xX1_wants_40, xX1_wants_43, xX1_wants_44, xX1_wants_45, xX1_wants_46, xX1_wants_47, xX1_wants_48, xX1_wants_49, xX1_wants_52, Bool.false_eq_true, if_true, if_false, kl_i, kl_a, kl_s, kl_u, kl_l, okS_nil, okS_cons, cat_i, cat_a, cat_s, cat_l, Nat.reduceAdd, Nat.reduceLeDiff, Nat.reduceSub, Nat.sub_zero, Nat.sub_self, Nat.zero_add, Nat.le_refl, Nat.zero_le, List.length_cons, List.length_nil, true_and, and_true, true_or, or_true, eq_self, forall_const, true_implies, not_true_eq_false, not_false_eq_true, false_implies, implies_true, false_and, and_false, false_or, or_false, hO, r0, o1, l1, hv, i20]
  unfold wantK at hQ
  by_cases h2 : m (p + 1) v.toNatClampNeg = 2
  · simp only [h2, Bool.false_eq_true, if_true, if_false, kl_i, kl_a, kl_s, kl_u, kl_l, okS_nil, okS_cons, cat_i, cat_a, cat_s, cat_l, Nat.reduceAdd, Nat.reduceLeDiff, Nat.reduceSub, Nat.sub_zero, Nat.sub_self, Nat.zero_add, Nat.le_refl, Nat.zero_le, List.length_cons, List.length_nil, true_and, and_true, true_or, or_true, eq_self, forall_const, true_implies, not_true_eq_false, not_false_eq_true, false_implies, implies_true, false_and, and_false, false_or, or_false] at hQ ⊢
    exact hQ
  · by_cases h3 : m (p + 1) v.toNatClampNeg = 3
    · simp only [h2, h3, Bool.false_eq_true, if_true, if_false, kl_i, kl_a, kl_s, kl_u, kl_l, okS_nil, okS_cons, cat_i, cat_a, cat_s, cat_l, Nat.reduceAdd, Nat.reduceLeDiff, Nat.reduceSub, Nat.sub_zero, Nat.sub_self, Nat.zero_add, Nat.le_refl, Nat.zero_le, List.length_cons, List.length_nil, true_and, and_true, true_or, or_true, eq_self, forall_const, true_implies, not_true_eq_false, not_false_eq_true, false_implies, implies_true, false_and, and_false, false_or, or_false, i32] at hQ ⊢
      exact hQ
    · by_cases h4 : m (p + 1) v.toNatClampNeg = 4
      · simp only [h2, h3, h4, Bool.false_eq_true, if_true, if_false, kl_i, kl_a, kl_s, kl_u, kl_l, okS_nil, okS_cons, cat_i, cat_a, cat_s, cat_l, Nat.reduceAdd, Nat.reduceLeDiff, Nat.reduceSub, Nat.sub_zero, Nat.sub_self, Nat.zero_add, Nat.le_refl, Nat.zero_le, List.length_cons, List.length_nil, true_and, and_true, true_or, or_true, eq_self, forall_const, true_implies, not_true_eq_false, not_false_eq_true, false_implies, implies_true, false_and, and_false, false_or, or_false, i42, i43] at hQ ⊢
        exact hQ
      · simp only [h2, h3, h4, Bool.false_eq_true, if_true, if_false, kl_i, kl_a, kl_s, kl_u, kl_l, okS_nil, okS_cons, cat_i, cat_a, cat_s, cat_l, Nat.reduceAdd, Nat.reduceLeDiff, Nat.reduceSub, Nat.sub_zero, Nat.sub_self, Nat.zero_add, Nat.le_refl, Nat.zero_le, List.length_cons, List.length_nil, true_and, and_true, true_or, or_true, eq_self, forall_const, true_implies, not_true_eq_false, not_false_eq_true, false_implies, implies_true, false_and, and_false, false_or, or_false] at hQ ⊢
        exact hQ
