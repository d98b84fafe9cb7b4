/-! THE INSTRUCTIONS: each a predicate transformer; each sound by a row of the kit -/
def killL (env : List Value) (k : Nat) : List Value := match k with
  | 0 => env
  | j + 1 => match env[j]? with
    | some w => env.set j (kl w)
    | none => env
def setL (env : List Value) (k : Nat) (v : Value) : List Value := (killL env k).set k v
def setL2 (env : List Value) (k : Nat) (v : Value) : List Value := (setL env k v).set (k + 1) (.float 0)
def okS : Nat → List Value → Prop
  | n, [] => n ≤ 8
  | n, v :: st => okS (n + v.category) st
theorem okS_sum : ∀ (st : List Value) (n : Nat), okS n st → n + (st.map fun v => v.category).sum ≤ 8
  | [], n, h => by simpa [okS] using h
  | v :: st, n, h => by
    have := okS_sum st _ h
    simp only [List.map_cons, List.sum_cons]
    omega
theorem okS_cv (K : Cx) {st : List Value} (h : okS 0 st) : ((st.map (cv K)).map fun v => v.category).sum ≤ 8 := by
  have h1 := okS_sum st 0 h
  have h2 : (st.map (cv K)).map (fun v => v.category) = st.map fun v => v.category := by
    rw [List.map_map]
    exact List.map_congr_left (fun v _ => cv_cat K v)
  rw [h2]
  omega
theorem killL_len (env : List Value) (k : Nat) : (killL env k).length = env.length := by
  cases k with
  | zero => rfl
  | succ j =>
    simp only [killL]
    split <;> simp
theorem setL_len (env : List Value) (k : Nat) (v : Value) : (setL env k v).length = env.length := by
  simp [setL, killL_len]
theorem setL2_len (env : List Value) (k : Nat) (v : Value) : (setL2 env k v).length = env.length := by
  simp [setL2, setL_len]
theorem killL_get {env : List Value} {k i : Nat} {v : Value} (h : (killL env k)[i]? = some v) (hf : ∀ x, v ≠ .float x) : env[i]? = some v ∧ ¬ (i + 1 = k ∧ v.category = 2) := by
  cases k with
  | zero => exact ⟨h, fun q => by omega⟩
  | succ j =>
    simp only [killL] at h
    split at h
    · next w hw =>
      by_cases hij : j = i
      · subst hij
        have hl : j < env.length := (List.getElem?_eq_some_iff.mp hw).1
        rw [List.getElem?_set_self hl] at h
        cases h
        cases w with
        | long x => exact absurd rfl (hf 0)
        | double x => exact absurd rfl (hf 0)
        | _ => exact ⟨hw, fun q => by have := q.2; simp [kl, Value.category] at this⟩
      · rw [List.getElem?_set_ne hij] at h
        exact ⟨h, fun q => by omega⟩
    · next hw =>
      refine ⟨h, fun q => ?_⟩
      have e : i = j := by omega
      subst e
      rw [hw] at h
      cases h
/-- the locals that are known, as the kit lists them -/
def knL (K : Cx) (env : List Value) : List (Nat × Value) := (List.range env.length).filterMap (fun (i : Nat) => match (env[i]? : Option Value) with
  | some (Value.float _) => none
  | some v => some (i, cv K v)
  | none => none)
theorem knL_mem {K : Cx} {env : List Value} {q : Nat × Value} : q ∈ knL K env ↔ ∃ v, env[q.1]? = some v ∧ (∀ x, v ≠ .float x) ∧ q.2 = cv K v := by
  constructor
  · intro h
    obtain ⟨i, hi, hq⟩ := List.mem_filterMap.mp h
    split at hq
    · cases hq
    · next v hv1 hv2 =>
      cases hq
      exact ⟨v, hv2, fun x e => hv1 x e, rfl⟩
    · cases hq
  · rintro ⟨v, h1, h2, h3⟩
    refine List.mem_filterMap.mpr ⟨q.1, List.mem_range.mpr (List.getElem?_eq_some_iff.mp h1).1, ?_⟩
    split
    · next x hx =>
      rw [h1] at hx
      exact absurd (Option.some.inj hx) (h2 x)
    · next w hw1 hw2 =>
      rw [h1] at hw2
      cases hw2
      rw [← h3]
    · next hx =>
      rw [h1] at hx
      cases hx
theorem lrE.has {K : Cx} {env : List Value} {ls : Array Slot} {nL : Nat} (h : lrE K env ls) (hn : env.length = nL) : lv_has ls nL (knL K env) := by
  refine ⟨h.1.trans hn, h.2.1, fun q hq => ?_⟩
  obtain ⟨v, h1, h2, h3⟩ := knL_mem.mp hq
  rw [h3]
  exact h.2.2 _ _ h1 h2
theorem lrE.set1 {K : Cx} {env : List Value} {ls : Array Slot} {nL k : Nat} {v : Value} (hn : env.length = nL) (h : lv_has ls nL ((k, cv K v) :: (knL K env).filter (fun q => !(q.1 == k) && !(q.1 + 1 == k && q.2.category == 2)))) : lrE K (setL env k v) ls := by
  refine ⟨h.1.trans (by rw [setL_len, hn]), h.2.1, fun i w hi hw => ?_⟩
  by_cases hik : i = k
  · subst hik
    have hl : i < (killL env i).length := by
      have := (List.getElem?_eq_some_iff.mp hi).1
      simpa [setL] using this
    simp only [setL, List.getElem?_set_self hl, Option.some.injEq] at hi
    rw [← hi]
    exact h.2.2 _ List.mem_cons_self
  · simp only [setL] at hi
    rw [List.getElem?_set_ne (Ne.symm hik)] at hi
    obtain ⟨h1, h2⟩ := killL_get hi hw
    refine h.2.2 (i, cv K w) (List.mem_cons_of_mem _ (List.mem_filter.mpr ⟨knL_mem.mpr ⟨w, h1, hw, rfl⟩, ?_⟩))
    simp only [cv_cat, Bool.and_eq_true, Bool.not_eq_true', beq_eq_false_iff_ne, ne_eq, hik, not_false_eq_true, true_and, Bool.and_eq_false_iff]
    by_cases c1 : i + 1 = k
    · exact Or.inr (fun c2 => h2 ⟨c1, c2⟩)
    · exact Or.inl c1
theorem lrE.set2 {K : Cx} {env : List Value} {ls : Array Slot} {nL k : Nat} {v : Value} (hn : env.length = nL) (h : lv_has ls nL ((k, cv K v) :: (knL K env).filter (fun q => !(q.1 == k) && (!(q.1 == k + 1) && !(q.1 + 1 == k && q.2.category == 2))))) : lrE K (setL2 env k v) ls := by
  refine ⟨h.1.trans (by rw [setL2_len, hn]), h.2.1, fun i w hi hw => ?_⟩
  by_cases hi1 : i = k + 1
  · subst hi1
    have hl : k + 1 < (setL env k v).length := by
      have := (List.getElem?_eq_some_iff.mp hi).1
      simpa [setL2] using this
    simp only [setL2, List.getElem?_set_self hl, Option.some.injEq] at hi
    exact absurd hi.symm (hw 0)
  · simp only [setL2] at hi
    rw [List.getElem?_set_ne (Ne.symm hi1)] at hi
    by_cases hik : i = k
    · subst hik
      have hl : i < (killL env i).length := by
        have := (List.getElem?_eq_some_iff.mp hi).1
        simpa [setL] using this
      simp only [setL, List.getElem?_set_self hl, Option.some.injEq] at hi
      rw [← hi]
      exact h.2.2 _ List.mem_cons_self
    · simp only [setL] at hi
      rw [List.getElem?_set_ne (Ne.symm hik)] at hi
      obtain ⟨h1, h2⟩ := killL_get hi hw
      refine h.2.2 (i, cv K w) (List.mem_cons_of_mem _ (List.mem_filter.mpr ⟨knL_mem.mpr ⟨w, h1, hw, rfl⟩, ?_⟩))
      simp only [cv_cat, Bool.and_eq_true, Bool.not_eq_true', beq_eq_false_iff_ne, ne_eq, hik, hi1, not_false_eq_true, true_and, Bool.and_eq_false_iff]
      by_cases c1 : i + 1 = k
      · exact Or.inr (fun c2 => h2 ⟨c1, c2⟩)
      · exact Or.inl c1
/-! constants, locals -/
def iPush (n : Nat) (v : Value) : PT := fun _ a G => G (a.1 + n, a.2.1, v :: a.2.2.1, a.2.2.2)
def iLdI (n k : Nat) : PT := fun _ a G => match a.2.1[k]? with
  | some (.int x) => G (a.1 + n, a.2.1, .int x :: a.2.2.1, a.2.2.2)
  | _ => False
def iLdL (n k : Nat) : PT := fun _ a G => match a.2.1[k]? with
  | some (.long x) => G (a.1 + n, a.2.1, .long x :: a.2.2.1, a.2.2.2)
  | _ => False
def iLdA (n k : Nat) : PT := fun _ a G => match a.2.1[k]? with
  | some v => isR v ∧ G (a.1 + n, a.2.1, v :: a.2.2.1, a.2.2.2)
  | none => False
def iStI (n k : Nat) : PT := fun _ a G => match a.2.2.1 with
  | .int x :: st => k < a.2.1.length ∧ G (a.1 + n, setL a.2.1 k (.int x), st, a.2.2.2)
  | _ => False
def iStL (n k : Nat) : PT := fun _ a G => match a.2.2.1 with
  | .long x :: st => k + 1 < a.2.1.length ∧ G (a.1 + n, setL2 a.2.1 k (.long x), st, a.2.2.2)
  | _ => False
def iStA (n k : Nat) : PT := fun _ a G => match a.2.2.1 with
  | v :: st => isR v ∧ k < a.2.1.length ∧ G (a.1 + n, setL a.2.1 k v, st, a.2.2.2)
  | _ => False
def iInc (k : Nat) (z : Int32) : PT := fun _ a G => match a.2.1[k]? with
  | some (.int x) => G (a.1 + 3, setL a.2.1 k (.int (x + z)), a.2.2)
  | _ => False
def iGoto (t : Nat) : PT := fun _ a G => G (t, a.2)
def iB (f : Int32 → Int32 → Int32) : PT := fun _ a G => match a.2.2.1 with
  | .int y :: .int x :: st => G (a.1 + 1, a.2.1, .int (f x y) :: st, a.2.2.2)
  | _ => False
def iBz (f : Int32 → Int32 → Int32) : PT := fun _ a G => match a.2.2.1 with
  | .int y :: .int x :: st => ¬ y = 0 ∧ G (a.1 + 1, a.2.1, .int (f x y) :: st, a.2.2.2)
  | _ => False
def iU (f : Int32 → Int32) : PT := fun _ a G => match a.2.2.1 with
  | .int x :: st => G (a.1 + 1, a.2.1, .int (f x) :: st, a.2.2.2)
  | _ => False
def lB (f : Int64 → Int64 → Int64) : PT := fun _ a G => match a.2.2.1 with
  | .long y :: .long x :: st => G (a.1 + 1, a.2.1, .long (f x y) :: st, a.2.2.2)
  | _ => False
def lBz (f : Int64 → Int64 → Int64) : PT := fun _ a G => match a.2.2.1 with
  | .long y :: .long x :: st => ¬ y = 0 ∧ G (a.1 + 1, a.2.1, .long (f x y) :: st, a.2.2.2)
  | _ => False
def lS (f : Int64 → Int32 → Int64) : PT := fun _ a G => match a.2.2.1 with
  | .int y :: .long x :: st => G (a.1 + 1, a.2.1, .long (f x y) :: st, a.2.2.2)
  | _ => False
def iI2L : PT := fun _ a G => match a.2.2.1 with
  | .int x :: st => G (a.1 + 1, a.2.1, .long x.toInt64 :: st, a.2.2.2)
  | _ => False
def iL2I : PT := fun _ a G => match a.2.2.1 with
  | .long x :: st => G (a.1 + 1, a.2.1, .int x.toInt32 :: st, a.2.2.2)
  | _ => False
def iLcmp : PT := fun _ a G => match a.2.2.1 with
  | .long y :: .long x :: st => G (a.1 + 1, a.2.1, .int (lg_cmp x y) :: st, a.2.2.2)
  | _ => False
def iIf (f : Int32 → Prop) (t : Nat) : PT := fun _ a G => match a.2.2.1 with
  | .int x :: st => (f x → G (t, a.2.1, st, a.2.2.2)) ∧ (¬ f x → G (a.1 + 3, a.2.1, st, a.2.2.2))
  | _ => False
def iCm (f : Int32 → Int32 → Prop) (t : Nat) : PT := fun _ a G => match a.2.2.1 with
  | .int y :: .int x :: st => (f x y → G (t, a.2.1, st, a.2.2.2)) ∧ (¬ f x y → G (a.1 + 3, a.2.1, st, a.2.2.2))
  | _ => False
def iIfN (f : Int32 → Prop) (t : Nat) : PT := fun _ a G => match a.2.2.1 with
  | .int x :: st => (f x → G (a.1 + 3, a.2.1, st, a.2.2.2)) ∧ (¬ f x → G (t, a.2.1, st, a.2.2.2))
  | _ => False
def iCmN (f : Int32 → Int32 → Prop) (t : Nat) : PT := fun _ a G => match a.2.2.1 with
  | .int y :: .int x :: st => (f x y → G (a.1 + 3, a.2.1, st, a.2.2.2)) ∧ (¬ f x y → G (t, a.2.1, st, a.2.2.2))
  | _ => False
/-- a switch: the first key that fits -/
def swG (x : Int32) (G : Nat → Prop) (dt : Nat) : List (Int32 × Nat) → Prop
  | [] => G dt
  | (k, t) :: r => (x = k → G t) ∧ (¬ x = k → swG x G dt r)
def iSw (tb : List (Int32 × Nat)) (dt : Nat) : PT := fun _ a G => match a.2.2.1 with
  | .int x :: st => swG x (fun t => G (t, a.2.1, st, a.2.2.2)) dt tb
  | _ => False
def iDup : PT := fun _ a G => match a.2.2.1 with
  | v :: st => v.category = 1 ∧ G (a.1 + 1, a.2.1, v :: v :: st, a.2.2.2)
  | _ => False
def iDup2 : PT := fun _ a G => match a.2.2.1 with
  | v :: w :: st => v.category = 1 ∧ w.category = 1 ∧ G (a.1 + 1, a.2.1, v :: w :: v :: w :: st, a.2.2.2)
  | _ => False
def iPop : PT := fun _ a G => match a.2.2.1 with
  | v :: st => v.category = 1 ∧ G (a.1 + 1, a.2.1, st, a.2.2.2)
  | _ => False
def iRet (ty : FieldType) : PT := fun Q a _ => match a.2.2.1 with
  | [.int x] => narrow ty (.int x) = .int x ∧ Q x a.2.2.2.2.1 a.2.2.2.2.2.1 a.2.2.2.2.2.2
  | _ => False
def iRetV : PT := fun Q a _ => match a.2.2.1 with
  | [] => Q 0 a.2.2.2.2.1 a.2.2.2.2.2.1 a.2.2.2.2.2.2
  | _ => False
section SND
variable {K : Cx} {d : Nat} {code : ByteArray} {own : String} {ini : Bool} {ret : Option FieldType} {pc : Nat}
theorem snd_iconst {n : Int} {v : Int32} (hdg : decode code pc = .ok (.iconst n, 1)) (hv : Int32.ofInt n = v) : snd K d code own ini ret (iPush 1 (.int v)) pc := by
  intro p l e R s m args below meth c Qf Q hC hR env st b σ mm ll G h kk ls H locs cells slots hE hn hr hS h1 h2
  exact lv_iconst hC.1 hC.2.1 hdg hv (kk _ h ls H locs cells slots hE hn hr hS h1 h2)
theorem snd_bipush {n : Int} {v : Int32} (hdg : decode code pc = .ok (.bipush n, 2)) (hv : (Int8.ofInt n).toInt32 = v) : snd K d code own ini ret (iPush 2 (.int v)) pc := by
  intro p l e R s m args below meth c Qf Q hC hR env st b σ mm ll G h kk ls H locs cells slots hE hn hr hS h1 h2
  exact lv_bipush hC.1 hC.2.1 hdg hv (kk _ h ls H locs cells slots hE hn hr hS h1 h2)
theorem snd_sipush {n : Int} {v : Int32} (hdg : decode code pc = .ok (.sipush n, 3)) (hv : (Int16.ofInt n).toInt32 = v) : snd K d code own ini ret (iPush 3 (.int v)) pc := by
  intro p l e R s m args below meth c Qf Q hC hR env st b σ mm ll G h kk ls H locs cells slots hE hn hr hS h1 h2
  exact lv_sipush hC.1 hC.2.1 hdg hv (kk _ h ls H locs cells slots hE hn hr hS h1 h2)
theorem snd_lconst {n : Fin 2} {v : Int64} (hdg : decode code pc = .ok (.lconst n, 1)) (hv : Int64.ofNat (n : Nat) = v) : snd K d code own ini ret (iPush 1 (.long v)) pc := by
  intro p l e R s m args below meth c Qf Q hC hR env st b σ mm ll G h kk ls H locs cells slots hE hn hr hS h1 h2
  exact lv_lconst hC.1 hC.2.1 hdg hv (kk _ h ls H locs cells slots hE hn hr hS h1 h2)
theorem snd_ldc {index : Nat} {v : Int32} (hdg : decode code pc = .ok (.ldc index, 2)) (hw : Cond.constant own index v ∈ LG) : snd K d code own ini ret (iPush 2 (.int v)) pc := by
  intro p l e R s m args below meth c Qf Q hC hR env st b σ mm ll G h kk ls H locs cells slots hE hn hr hS h1 h2
  exact lv_ldc hC.1 hC.2.1 hC.2.2.1 (hC.2.2.2.1 _ hw) hdg (kk _ h ls H locs cells slots hE hn hr hS h1 h2)
theorem snd_ldcw {index : Nat} {v : Int32} (hdg : decode code pc = .ok (.ldc_w index, 3)) (hw : Cond.constant own index v ∈ LG) : snd K d code own ini ret (iPush 3 (.int v)) pc := by
  intro p l e R s m args below meth c Qf Q hC hR env st b σ mm ll G h kk ls H locs cells slots hE hn hr hS h1 h2
  exact lv_ldcw hC.1 hC.2.1 hC.2.2.1 (hC.2.2.2.1 _ hw) hdg (kk _ h ls H locs cells slots hE hn hr hS h1 h2)
theorem snd_ldc2 {index : Nat} {v : Int64} (hdg : decode code pc = .ok (.ldc2_w index, 3)) (hw : Cond.constantLong own index v ∈ LG) : snd K d code own ini ret (iPush 3 (.long v)) pc := by
  intro p l e R s m args below meth c Qf Q hC hR env st b σ mm ll G h kk ls H locs cells slots hE hn hr hS h1 h2
  exact lv_ldc2 hC.1 hC.2.1 hC.2.2.1 (hC.2.2.2.1 _ hw) hdg (kk _ h ls H locs cells slots hE hn hr hS h1 h2)
theorem snd_ldcS {index i : Nat} (hdg : decode code pc = .ok (.ldc index, 2)) (ho : own = "NightWells$Tape") (hi : i < 7) (hx : sIx.getD i 0 = index) : snd K d code own ini ret (iPush 2 (.retAddr i)) pc := by
  intro p l e R s m args below meth c Qf Q hC hR env st b σ mm ll G h kk ls H locs cells slots hE hn hr hS h1 h2
  subst hx
  have hk := kk _ h ls H locs cells slots hE hn hr hS h1 h2
  have he : cv K (.retAddr i) = .ref (xK K i) := by
    rw [cv_s K (by omega), xsp, if_pos (by omega)]
  simp only [List.map_cons, he] at hk
  exact va_ldcS hC.1 hC.2.1 (own := own) hC.2.2.1 (by rw [ho]; exact hC.2.2.2.2.1.2.2.1 i hi) hdg hk
theorem snd_iload_n {k : Fin 4} {i : Nat} (hdg : decode code pc = .ok (.iload_n k, 1)) (hi : (k : Nat) = i) : snd K d code own ini ret (iLdI 1 i) pc := by
  intro p l e R s m args below meth c Qf Q hC hR env st b σ mm ll G h kk ls H locs cells slots hE hn hr hS h1 h2
  unfold iLdI at h
  split at h
  · next x hx => exact lv_iload_n hC.1 hC.2.1 hdg hi (hE.2.2 i _ hx (fun _ q => by cases q)) (kk _ h ls H locs cells slots hE hn hr hS h1 h2)
  · exact h.elim
theorem snd_iload {i : Nat} (hdg : decode code pc = .ok (.iload i, 2)) : snd K d code own ini ret (iLdI 2 i) pc := by
  intro p l e R s m args below meth c Qf Q hC hR env st b σ mm ll G h kk ls H locs cells slots hE hn hr hS h1 h2
  unfold iLdI at h
  split at h
  · next x hx => exact lv_iload hC.1 hC.2.1 hdg (hE.2.2 i _ hx (fun _ q => by cases q)) (kk _ h ls H locs cells slots hE hn hr hS h1 h2)
  · exact h.elim
theorem snd_lload_n {k : Fin 4} {i : Nat} (hdg : decode code pc = .ok (.lload_n k, 1)) (hi : (k : Nat) = i) : snd K d code own ini ret (iLdL 1 i) pc := by
  intro p l e R s m args below meth c Qf Q hC hR env st b σ mm ll G h kk ls H locs cells slots hE hn hr hS h1 h2
  unfold iLdL at h
  split at h
  · next x hx => exact lv_lload_n hC.1 hC.2.1 hdg hi (hE.2.2 i _ hx (fun _ q => by cases q)) (kk _ h ls H locs cells slots hE hn hr hS h1 h2)
  · exact h.elim
theorem snd_lload {i : Nat} (hdg : decode code pc = .ok (.lload i, 2)) : snd K d code own ini ret (iLdL 2 i) pc := by
  intro p l e R s m args below meth c Qf Q hC hR env st b σ mm ll G h kk ls H locs cells slots hE hn hr hS h1 h2
  unfold iLdL at h
  split at h
  · next x hx => exact lv_lload hC.1 hC.2.1 hdg (hE.2.2 i _ hx (fun _ q => by cases q)) (kk _ h ls H locs cells slots hE hn hr hS h1 h2)
  · exact h.elim
theorem snd_aload_n {k : Fin 4} {i : Nat} (hdg : decode code pc = .ok (.aload_n k, 1)) (hi : (k : Nat) = i) : snd K d code own ini ret (iLdA 1 i) pc := by
  intro p l e R s m args below meth c Qf Q hC hR env st b σ mm ll G h kk ls H locs cells slots hE hn hr hS h1 h2
  unfold iLdA at h
  split at h
  · next v hx =>
    obtain ⟨hv, h⟩ := h
    cases v with
    | ref x => exact lv_aload_n hC.1 hC.2.1 hdg hi (hE.2.2 i _ hx (fun _ q => by cases q)) (kk _ h ls H locs cells slots hE hn hr hS h1 h2)
    | retAddr x =>
      have hq := hE.2.2 i _ hx (fun _ q => by cases q)
      have hk := kk _ h ls H locs cells slots hE hn hr hS h1 h2
      rcases cv_r K x with ⟨z, e⟩ | e
      · rw [e] at hq
        simp only [List.map_cons, e] at hk
        exact lv_aload_n hC.1 hC.2.1 hdg hi hq hk
      · rw [e] at hq
        simp only [List.map_cons, e] at hk
        exact lv_aload_nN hC.1 hC.2.1 hdg hi hq hk
    | _ => exact hv.elim
  · exact h.elim
theorem snd_aload {i : Nat} (hdg : decode code pc = .ok (.aload i, 2)) : snd K d code own ini ret (iLdA 2 i) pc := by
  intro p l e R s m args below meth c Qf Q hC hR env st b σ mm ll G h kk ls H locs cells slots hE hn hr hS h1 h2
  unfold iLdA at h
  split at h
  · next v hx =>
    obtain ⟨hv, h⟩ := h
    cases v with
    | ref x => exact lv_aload hC.1 hC.2.1 hdg (hE.2.2 i _ hx (fun _ q => by cases q)) (kk _ h ls H locs cells slots hE hn hr hS h1 h2)
    | retAddr x =>
      have hq := hE.2.2 i _ hx (fun _ q => by cases q)
      have hk := kk _ h ls H locs cells slots hE hn hr hS h1 h2
      rcases cv_r K x with ⟨z, e⟩ | e
      · rw [e] at hq
        simp only [List.map_cons, e] at hk
        exact lv_aload hC.1 hC.2.1 hdg hq hk
      · rw [e] at hq
        simp only [List.map_cons, e] at hk
        exact lv_aloadN hC.1 hC.2.1 hdg hq hk
    | _ => exact hv.elim
  · exact h.elim
theorem snd_istore_n {k : Fin 4} {i : Nat} (hdg : decode code pc = .ok (.istore_n k, 1)) (hi : (k : Nat) = i) : snd K d code own ini ret (iStI 1 i) pc := by
  intro p l e R s m args below meth c Qf Q hC hR env st b σ mm ll G h kk ls H locs cells slots hE hn hr hS h1 h2
  unfold iStI at h
  split at h
  · next x st' hst =>
    subst hst
    obtain ⟨hk, h⟩ := h
    dsimp only at hn hk
    exact lv_istore_n hC.1 hC.2.1 hdg hi (hE.has hn) (by omega) rfl (fun ls' hl' => kk _ h ls' H locs cells slots (lrE.set1 hn hl') (by dsimp only; rw [setL_len]; exact hn) hr hS h1 h2)
  · exact h.elim
theorem snd_istore {i : Nat} (hdg : decode code pc = .ok (.istore i, 2)) : snd K d code own ini ret (iStI 2 i) pc := by
  intro p l e R s m args below meth c Qf Q hC hR env st b σ mm ll G h kk ls H locs cells slots hE hn hr hS h1 h2
  unfold iStI at h
  split at h
  · next x st' hst =>
    subst hst
    obtain ⟨hk, h⟩ := h
    dsimp only at hn hk
    exact lv_istore hC.1 hC.2.1 hdg (hE.has hn) (by omega) rfl (fun ls' hl' => kk _ h ls' H locs cells slots (lrE.set1 hn hl') (by dsimp only; rw [setL_len]; exact hn) hr hS h1 h2)
  · exact h.elim
theorem snd_lstore_n {k : Fin 4} {i : Nat} (hdg : decode code pc = .ok (.lstore_n k, 1)) (hi : (k : Nat) = i) : snd K d code own ini ret (iStL 1 i) pc := by
  intro p l e R s m args below meth c Qf Q hC hR env st b σ mm ll G h kk ls H locs cells slots hE hn hr hS h1 h2
  unfold iStL at h
  split at h
  · next x st' hst =>
    subst hst
    obtain ⟨hk, h⟩ := h
    dsimp only at hn hk
    exact lv_lstore_n hC.1 hC.2.1 hdg hi (hE.has hn) (by omega) rfl (fun ls' hl' => kk _ h ls' H locs cells slots (lrE.set2 hn hl') (by dsimp only; rw [setL2_len]; exact hn) hr hS h1 h2)
  · exact h.elim
theorem snd_lstore {i : Nat} (hdg : decode code pc = .ok (.lstore i, 2)) : snd K d code own ini ret (iStL 2 i) pc := by
  intro p l e R s m args below meth c Qf Q hC hR env st b σ mm ll G h kk ls H locs cells slots hE hn hr hS h1 h2
  unfold iStL at h
  split at h
  · next x st' hst =>
    subst hst
    obtain ⟨hk, h⟩ := h
    dsimp only at hn hk
    exact lv_lstore hC.1 hC.2.1 hdg (hE.has hn) (by omega) rfl (fun ls' hl' => kk _ h ls' H locs cells slots (lrE.set2 hn hl') (by dsimp only; rw [setL2_len]; exact hn) hr hS h1 h2)
  · exact h.elim
theorem snd_astore_n {k : Fin 4} {i : Nat} (hdg : decode code pc = .ok (.astore_n k, 1)) (hi : (k : Nat) = i) : snd K d code own ini ret (iStA 1 i) pc := by
  intro p l e R s m args below meth c Qf Q hC hR env st b σ mm ll G h kk ls H locs cells slots hE hn hr hS h1 h2
  unfold iStA at h
  split at h
  · next v st' hst =>
    subst hst
    obtain ⟨hv, hk, h⟩ := h
    dsimp only at hn hk
    cases v with
    | ref x => exact lv_astore_n hC.1 hC.2.1 hdg hi (hE.has hn) (by omega) rfl (fun ls' hl' => kk _ h ls' H locs cells slots (lrE.set1 hn hl') (by dsimp only; rw [setL_len]; exact hn) hr hS h1 h2)
    | retAddr x =>
      rcases cv_r K x with ⟨z, e⟩ | e
      · simp only [List.map_cons, e]
        exact lv_astore_n hC.1 hC.2.1 hdg hi (hE.has hn) (by omega) rfl (fun ls' hl' => kk _ h ls' H locs cells slots (lrE.set1 (v := .retAddr x) hn (by rw [e]; exact hl')) (by dsimp only; rw [setL_len]; exact hn) hr hS h1 h2)
      · simp only [List.map_cons, e]
        exact lv_astore_nN hC.1 hC.2.1 hdg hi (hE.has hn) (by omega) rfl (fun ls' hl' => kk _ h ls' H locs cells slots (lrE.set1 (v := .retAddr x) hn (by rw [e]; exact hl')) (by dsimp only; rw [setL_len]; exact hn) hr hS h1 h2)
    | _ => exact hv.elim
  · exact h.elim
theorem snd_astore {i : Nat} (hdg : decode code pc = .ok (.astore i, 2)) : snd K d code own ini ret (iStA 2 i) pc := by
  intro p l e R s m args below meth c Qf Q hC hR env st b σ mm ll G h kk ls H locs cells slots hE hn hr hS h1 h2
  unfold iStA at h
  split at h
  · next v st' hst =>
    subst hst
    obtain ⟨hv, hk, h⟩ := h
    dsimp only at hn hk
    cases v with
    | ref x => exact lv_astore hC.1 hC.2.1 hdg (hE.has hn) (by omega) rfl (fun ls' hl' => kk _ h ls' H locs cells slots (lrE.set1 hn hl') (by dsimp only; rw [setL_len]; exact hn) hr hS h1 h2)
    | retAddr x =>
      rcases cv_r K x with ⟨z, e⟩ | e
      · simp only [List.map_cons, e]
        exact lv_astore hC.1 hC.2.1 hdg (hE.has hn) (by omega) rfl (fun ls' hl' => kk _ h ls' H locs cells slots (lrE.set1 (v := .retAddr x) hn (by rw [e]; exact hl')) (by dsimp only; rw [setL_len]; exact hn) hr hS h1 h2)
      · simp only [List.map_cons, e]
        exact lv_astoreN hC.1 hC.2.1 hdg (hE.has hn) (by omega) rfl (fun ls' hl' => kk _ h ls' H locs cells slots (lrE.set1 (v := .retAddr x) hn (by rw [e]; exact hl')) (by dsimp only; rw [setL_len]; exact hn) hr hS h1 h2)
    | _ => exact hv.elim
  · exact h.elim
theorem snd_iinc {i : Nat} {n : Int} {z : Int32} (hdg : decode code pc = .ok (.iinc i n, 3)) (hz : Int32.ofInt n = z) : snd K d code own ini ret (iInc i z) pc := by
  intro p l e R s m args below meth c Qf Q hC hR env st b σ mm ll G h kk ls H locs cells slots hE hn hr hS h1 h2
  unfold iInc at h
  split at h
  · next x hx =>
    dsimp only at hn hx
    have hm : (i, Value.int x) ∈ knL K env := knL_mem.mpr ⟨.int x, hx, fun _ q => (by cases q), rfl⟩
    obtain ⟨k, hk⟩ := List.getElem?_of_mem hm
    have hl := (List.getElem?_eq_some_iff.mp hx).1
    exact lv_iinc (v := x + z) hC.1 hC.2.1 hdg (hE.has hn) hk (by rw [hz]) (by omega) rfl (fun ls' hl' => kk _ h ls' H locs cells slots (lrE.set1 hn hl') (by dsimp only; rw [setL_len]; exact hn) hr hS h1 h2)
  · exact h.elim
theorem snd_goto {off : Int} {t : Nat} (hdg : decode code pc = .ok (.goto off, 3)) (ht : (pc : Int) + off = (t : Int)) : snd K d code own ini ret (iGoto t) pc := by
  intro p l e R s m args below meth c Qf Q hC hR env st b σ mm ll G h kk ls H locs cells slots hE hn hr hS h1 h2
  exact lv_goto hC.1 hC.2.1 hdg ht (kk _ h ls H locs cells slots hE hn hr hS h1 h2)
end SND
