/-! THE ABSTRACT MACHINE: a state is (pc, locals, stack, room left, cells made, their ints, their longs); an instruction is a predicate transformer; a method's meaning is the least fixpoint; each instruction is shown sound against the kit's rows once. -/
abbrev Sg : Type := Nat × (Nat → Nat × Nat) × (Nat → Nat → Value)
abbrev Mm : Type := Nat → Nat → Int32
abbrev Ml : Type := Nat → Nat → Int64
abbrev Bd : Type := Nat × Nat
abbrev St : Type := Nat × List Value × List Value × Bd × Sg × Mm × Ml
abbrev Rt : Type := Int32 → Sg → Mm → Ml → Prop
abbrev PT : Type := Rt → St → (St → Prop) → Prop
/-- what a whole run holds fast: launch, first cell of ours, classes, strings, the formatter, the script -/
abbrev Cx : Type := Launch × Nat × va_G × (Nat → Nat) × (Nat → Nat) × Option Nat × Nat × Nat × (Nat → Int32)
def xl (K : Cx) : Launch := K.1
def xB (K : Cx) : Nat := K.2.1
def xD (K : Cx) : va_G := K.2.2.1
def xK (K : Cx) : Nat → Nat := K.2.2.2.1
def xV (K : Cx) : Nat → Nat := K.2.2.2.2.1
def xF (K : Cx) : Option Nat := K.2.2.2.2.2.1
def xb (K : Cx) : Nat := K.2.2.2.2.2.2.1
def xL (K : Cx) : Nat := K.2.2.2.2.2.2.2.1
def xs (K : Cx) : Nat → Int32 := K.2.2.2.2.2.2.2.2
/-- special addresses: strings, their rows, the script -/
def xsp (K : Cx) (n : Nat) : Nat := if n < 1000 then xK K n else if n < 2000 then xV K (n - 1000) else xb K
/-- the formatter: null or a reference, nobody asks which -/
def fV : Option Nat → Value
  | none => .null
  | some a => .ref a
def cv (K : Cx) : Value → Value
  | .ref a => .ref (xB K + a)
  | .retAddr n => if n = 2001 then fV (xF K) else .ref (xsp K n)
  | v => v
theorem cv_s (K : Cx) {n : Nat} (h : n < 2001) : cv K (.retAddr n) = .ref (xsp K n) := if_neg (by omega)
theorem cv_r (K : Cx) (n : Nat) : (∃ a, cv K (.retAddr n) = .ref a) ∨ cv K (.retAddr n) = .null := by
  by_cases h : n = 2001
  · have e : cv K (.retAddr n) = fV (xF K) := if_pos h
    rw [e]
    cases xF K with
    | none => exact Or.inr rfl
    | some a => exact Or.inl ⟨a, rfl⟩
  · exact Or.inl ⟨xsp K n, if_neg h⟩
theorem cv_cat (K : Cx) (v : Value) : (cv K v).category = v.category := by
  cases v with
  | retAddr n => rcases cv_r K n with ⟨a, e⟩ | e <;> rw [e] <;> rfl
  | _ => rfl
def kl : Value → Value
  | .long _ => .float 0
  | .double _ => .float 0
  | v => v
theorem kl_i (x : Int32) : kl (.int x) = .int x := rfl
theorem kl_a (x : Nat) : kl (.ref x) = .ref x := rfl
theorem kl_s (x : Nat) : kl (.retAddr x) = .retAddr x := rfl
theorem kl_u (x : UInt32) : kl (.float x) = .float x := rfl
theorem kl_l (x : Int64) : kl (.long x) = .float 0 := rfl
def isR : Value → Prop
  | .ref _ => True
  | .retAddr _ => True
  | _ => False
theorem isR_a (x : Nat) : isR (.ref x) = True := rfl
theorem isR_s (x : Nat) : isR (.retAddr x) = True := rfl
def shp (σ : Sg) (a : Nat) : Nat × Nat := σ.2.1 a
def rf (σ : Sg) (a k : Nat) : Value := σ.2.2 a k
def ln (σ : Sg) (a : Nat) : Nat := (σ.2.1 a).2
/-- a is a cell of ours, of the kind t: 0 to 6 an object of that class, 100 ints, 101 bytes, 102 booleans, 110 + c references to objects of class c -/
def isO (σ : Sg) (a t : Nat) : Prop := a < σ.1 ∧ (σ.2.1 a).1 = t
def upM (m : Mm) (a k : Nat) (x : Int32) : Mm := fun b => if b = a then upd (m a) k x else m b
def upL (m : Ml) (a k : Nat) (x : Int64) : Ml := fun b => if b = a then (fun j => if j = k then x else m a j) else m b
def upR (σ : Sg) (a k : Nat) (x : Value) : Sg := (σ.1, σ.2.1, fun b => if b = a then (fun j => if j = k then x else σ.2.2 a j) else σ.2.2 b)
def upN (σ : Sg) (t n : Nat) : Sg := (σ.1 + 1, (fun b => if b = σ.1 then (t, n) else σ.2.1 b), fun b => if b = σ.1 then (fun _ => .null) else σ.2.2 b)
def zeM (m : Mm) (a : Nat) : Mm := fun b => if b = a then (fun _ => 0) else m b
def zeL (m : Ml) (a : Nat) : Ml := fun b => if b = a then (fun _ => 0) else m b
theorem upM_s (m : Mm) (a k : Nat) (x : Int32) : upM m a k x a = upd (m a) k x := if_pos rfl
theorem upM_n (m : Mm) {a b : Nat} (k : Nat) (x : Int32) (h : b ≠ a) : upM m a k x b = m b := if_neg h
theorem upL_s (m : Ml) (a k : Nat) (x : Int64) : upL m a k x a = fun j => if j = k then x else m a j := if_pos rfl
theorem upL_n (m : Ml) {a b : Nat} (k : Nat) (x : Int64) (h : b ≠ a) : upL m a k x b = m b := if_neg h
/-- the kinds of the fields: 0 an int or a boolean, 1 a reference, 2 a long -/
def fkd (c k : Nat) : Nat := match c, k with
  | 0, 0 => 1
  | 1, 0 => 1
  | 1, 1 => 1
  | 1, 2 => 1
  | 1, 3 => 1
  | 1, 4 => 1
  | 2, 0 => 1
  | 3, 0 => 1
  | 4, 0 => 1
  | 5, 0 => 1
  | 5, 1 => 1
  | 5, 2 => 1
  | 5, 3 => 1
  | 5, 4 => 1
  | 5, 5 => 1
  | 5, 6 => 1
  | 5, 7 => 1
  | 6, 0 => 1
  | 6, 1 => 1
  | 6, 2 => 1
  | 6, 4 => 1
  | 6, 8 => 1
  | 6, 10 => 1
  | 6, 11 => 1
  | 6, 12 => 1
  | 6, 14 => 1
  | 6, 18 => 2
  | 6, 20 => 1
  | 6, 21 => 1
  | 6, 22 => 1
  | _, _ => 0
def fvl (K : Cx) (σ : Sg) (m : Mm) (l : Ml) (c a k : Nat) : Value := match fkd c k with
  | 0 => .int (m a k)
  | 1 => cv K (σ.2.2 a k)
  | _ => .long (l a k)
def aty (t : Nat) : FieldType := match t with
  | 100 => .int
  | 101 => .byte
  | _ => .boolean
/-- what the cell a of ours holds -/
def cel (K : Cx) (σ : Sg) (m : Mm) (l : Ml) (a : Nat) (U : State) (H : Heap) : Prop :=
  ((σ.2.1 a).1 < 100 → ∃ r, vwCl[(σ.2.1 a).1]? = some r ∧ t_OB (xB K + a) ((xD K).1 (σ.2.1 a).1) r.2.2 ((xD K).2 (σ.2.1 a).1) H (fvl K σ m l (σ.2.1 a).1 a)) ∧
  (100 ≤ (σ.2.1 a).1 → (σ.2.1 a).1 < 110 → ∃ cA, ArrOfT U cA (aty (σ.2.1 a).1) ∧ H[xB K + a]? = some (arrV cA (σ.2.1 a).2 (fun j => .int (m a j)))) ∧
  (110 ≤ (σ.2.1 a).1 → ∃ r cA, vwCl[(σ.2.1 a).1 - 110]? = some r ∧ ArrOfT U cA (.object r.1) ∧ va_RA U cA (.object r.1) ∧ H[xB K + a]? = some (arrV cA (σ.2.1 a).2 (fun j => cv K (σ.2.2 a j))))
def rpH (K : Cx) (σ : Sg) (m : Mm) (l : Ml) (U : State) (H : Heap) : Prop := H.size = xB K + σ.1 ∧ ∀ a, a < σ.1 → cel K σ m l a U H
/-- the texts of Tape's string constants: pool entries, lengths, bytes -/
def sIx : List Nat := [25, 50, 93, 95, 97, 99, 101]
def sTx : List String := ["law", "village", "calm", "lazy", "proud", "strong", "awake"]
def sLn : List Nat := [3, 7, 4, 4, 5, 6, 5]
def sBy : List (List Int32) := [[108, 97, 119], [118, 105, 108, 108, 97, 103, 101], [99, 97, 108, 109], [108, 97, 122, 121], [112, 114, 111, 117, 100], [115, 116, 114, 111, 110, 103], [97, 119, 97, 107, 101]]
def xA (K : Cx) : Nat → Prop := fun q => xB K ≤ q
/-- what stays: tables, strings, statics, links between nest mates, the script -/
def stC (K : Cx) (U : State) : Prop :=
  va_K (xD K) vwCl [] U ∧ vk_S 7 sLn sBy (xK K) (xV K) (xA K) U U.heap ∧ (∀ i, i < 7 → vk_R "NightWells$Tape" (sIx.getD i 0) (sTx.getD i "") (xK K i) U) ∧
  va_Z "java/lang/String" "COMPACT_STRINGS" "Z" (.int 1) (xA K) U U.heap ∧ va_Z "jdk/internal/util/Preconditions" "SIOOBE_FORMATTER" "Ljava/util/function/BiFunction;" (fV (xF K)) (xA K) U U.heap ∧
  (va_Nw (.methodLinkNest "NightWells" 15 ⟨"NightWells$Row", "<init>", "()V"⟩ "NightWells") U ∧ va_Nw (.methodLinkNest "NightWells" 22 ⟨"NightWells$Plain", "<init>", "()V"⟩ "NightWells") U ∧ va_Nw (.methodLinkNest "NightWells" 25 ⟨"NightWells$Tape", "<init>", "()V"⟩ "NightWells") U ∧ va_Nw (.methodLinkNest "NightWells$Acts" 17 ⟨"NightWells$Plain", "<init>", "()V"⟩ "NightWells") U ∧ va_Nw (.methodLinkNest "NightWells" 49 ⟨"NightWells$Trace", "<init>", "()V"⟩ "NightWells") U) ∧
  (va_AO "NightWells$Row" U ∧ va_AO "NightWells$Plain" U) ∧ (va_X (xb K) (xL K) (xs K) U U.heap ∧ xb K < xB K ∧ xb K < U.heap.size) ∧ xB K ≤ U.heap.size
def rep (K : Cx) (σ : Sg) (m : Mm) (l : Ml) (U : State) : Prop := rpH K σ m l U U.heap ∧ stC K U
theorem cel.moved {K : Cx} {σ : Sg} {m : Mm} {l : Ml} {a : Nat} {u U : State} {H : Heap} (hvm : u.vm.Alike U.vm) (h : cel K σ m l a u H) : cel K σ m l a U H := by
  obtain ⟨h1, h2, h3⟩ := h
  refine ⟨h1, fun g1 g2 => ?_, fun g1 => ?_⟩
  · obtain ⟨cA, q1, q2⟩ := h2 g1 g2
    exact ⟨cA, arrOfT_moved hvm q1, q2⟩
  · obtain ⟨r, cA, q1, q2, q3, q4⟩ := h3 g1
    exact ⟨r, cA, q1, arrOfT_moved hvm q2, q3.moved hvm, q4⟩
theorem rpH.moved {K : Cx} {σ : Sg} {m : Mm} {l : Ml} {u U : State} {H : Heap} (hvm : u.vm.Alike U.vm) (h : rpH K σ m l u H) : rpH K σ m l U H := ⟨h.1, fun a ha => (h.2 a ha).moved hvm⟩
/-- the part that stays, of any state behind: warm tables, all below our cells as it was -/
theorem stC.warm {K : Cx} {s U : State} (h : stC K s) (hW : s.WarmedH U.vm) (hsz : s.heap.size ≤ U.heap.size) (hq : ∀ q : Nat, q < s.heap.size → ¬ xA K q → U.heap[q]? = s.heap[q]?) : stC K U := by
  obtain ⟨h1, h2, h3, h4, h5, ⟨n1, n2, n3, n4, n5⟩, ⟨o1, o2⟩, ⟨x1, x2, x3⟩, h9⟩ := h
  have hvm := hW.alike
  exact ⟨va_K.moved hvm h1, (h2.kept hq).moved hvm, fun i hi => (h3 i hi).warm hW, (h4.kept hq).moved hvm, (h5.kept hq).moved hvm,
    ⟨n1.warmM hW, n2.warmM hW, n3.warmM hW, n4.warmM hW, n5.warmM hW⟩, ⟨o1.moved hvm, o2.moved hvm⟩, ⟨(x1.kept (hq _ x3 (Nat.not_le.mpr x2))).moved hvm, x2, Nat.lt_of_lt_of_le x3 hsz⟩, Nat.le_trans h9 hsz⟩
theorem stC.same {K : Cx} {s U : State} (h : stC K s) (hv : U.vm = s.vm) (hh : U.heap = s.heap) : stC K U := by
  obtain ⟨h1, h2, h3, h4, h5, ⟨n1, n2, n3, n4, n5⟩, ⟨o1, o2⟩, ⟨x1, x2, x3⟩, h9⟩ := h
  have hvm : s.vm.Alike U.vm := by rw [hv]; exact Vm.Alike.refl _
  rw [← hh] at h2 h4 h5 x1 x3 h9
  exact ⟨va_K.moved hvm h1, h2.moved hvm, fun i hi => (h3 i hi).same hv, h4.moved hvm, h5.moved hvm,
    ⟨n1.same rfl hv.symm, n2.same rfl hv.symm, n3.same rfl hv.symm, n4.same rfl hv.symm, n5.same rfl hv.symm⟩, ⟨o1.moved hvm, o2.moved hvm⟩, ⟨x1.moved hvm, x2, x3⟩, h9⟩
theorem rep.same {K : Cx} {σ : Sg} {m : Mm} {l : Ml} {s U : State} (h : rep K σ m l s) (hv : U.vm = s.vm) (hh : U.heap = s.heap) : rep K σ m l U := by
  refine ⟨?_, h.2.same hv hh⟩
  have h1 := h.1
  rw [← hh] at h1
  exact h1.moved (by rw [hv]; exact Vm.Alike.refl _)
theorem rep.of {K : Cx} {σ : Sg} {m : Mm} {l : Ml} {s U : State} {H : Heap} {locs : List Loc} (hc : stC K s) (hr : rpH K σ m l s H) (hS : va_S (xA K) s.heap H locs) (hU : U.heap = H) (hW : s.WarmedH U.vm) : rep K σ m l U := by
  subst hU
  exact ⟨hr.moved hW.alike, hc.warm hW hS.1 hS.2.1⟩
/-- the locals -/
def lrE (K : Cx) (env : List Value) (ls : Array Slot) : Prop := ls.size = env.length ∧ lv_wf ls ∧ ∀ (i : Nat) (v : Value), env[i]? = some v → (∀ x, v ≠ .float x) → ls[i]? = some (.val (cv K v))
def LG : List Cond := lw_tbl.filter goodWord
theorem LG_of {w : Cond} (h : w ∈ lw_tbl) (g : goodWord w = true) : w ∈ LG := List.mem_filter.mpr ⟨h, g⟩
theorem LG_good {w : Cond} (h : w ∈ LG) : goodWord w = true := (List.mem_filter.mp h).2
theorem gd_LG {c c' : Cond} (h : c' ∈ LG) : GoodIn (c :: LG) (c' :: LG) := by
  intro w hw
  rcases List.mem_cons.mp hw with e | hw
  · subst e
    exact ⟨List.mem_cons_of_mem _ h, good_of_word (LG_good h)⟩
  · exact ⟨List.mem_cons_of_mem _ hw, good_of_word (LG_good hw)⟩
theorem gd_LG0 {c' : Cond} (h : c' ∈ LG) : GoodIn LG (c' :: LG) := by
  intro w hw
  rcases List.mem_cons.mp hw with e | hw
  · subst e
    exact ⟨h, good_of_word (LG_good h)⟩
  · exact ⟨hw, good_of_word (LG_good hw)⟩
/-- a method: name, code, locals, answer, cells and slots that it makes -/
abbrev Yt : Type := MethodName × ByteArray × Nat × Option FieldType × Nat × Nat
def rmX (d mc ms : Nat) : Room := { frames := d, cells := mc, slots := ms, locals := 64 * d }
def qcX (K : Cx) (ret : Option FieldType) (Q : Rt) : Array Value → State → Outcome → State → Prop := match ret with
  | none => va_Qv (S := Sg × Mm × Ml) (fun u => Q 0 u.1 u.2.1 u.2.2) (fun u t => rep K u.1 u.2.1 u.2.2 t) (xA K)
  | some _ => va_Qi (S := Sg × Mm × Ml) (fun r u => Q r u.1 u.2.1 u.2.2) (fun u t => rep K u.1 u.2.1 u.2.2 t) (xA K)
def mtX (K : Cx) (d : Nat) (Y : Yt) (av : List Value) (σ : Sg) (m : Mm) (l : Ml) (Q : Rt) : Prop :=
  Met (xl K) Y.1 (.code Y.1 Y.2.1 Y.2.2.1 Y.2.2.2.1 :: LG) (rmX d Y.2.2.2.2.1 Y.2.2.2.2.2) (va_Pc (av.map (cv K)) (fun U => rep K σ m l U)) (qcX K Y.2.2.2.1 Q) Y.2.2.2.2.1 Y.2.2.2.2.2 (xA K)
/-- a contract: called at these arguments and cells, the method ends, at a depth of d calls at most, with an answer and cells of which Q holds -/
def CT (K : Cx) (d : Nat) (Y : Yt) (av : List Value) (σ : Sg) (m : Mm) (l : Ml) (Q : Rt) : Prop :=
  ∃ d', d' ≤ d ∧ ∃ Q0 : Rt, mtX K d' Y av σ m l Q0 ∧ ∀ r σ' m' l', Q0 r σ' m' l' → Q r σ' m' l'
theorem CT.mono {K : Cx} {d d2 : Nat} {Y : Yt} {av : List Value} {σ : Sg} {m : Mm} {l : Ml} {Q Q2 : Rt} (h : CT K d Y av σ m l Q) (hd : d ≤ d2) (hq : ∀ r σ' m' l', Q r σ' m' l' → Q2 r σ' m' l') : CT K d2 Y av σ m l Q2 := by
  obtain ⟨d', h1, Q0, h2, h3⟩ := h
  exact ⟨d', Nat.le_trans h1 hd, Q0, h2, fun r σ' m' l' q => hq _ _ _ _ (h3 _ _ _ _ q)⟩
/-- an instruction that wants more of what follows gives no more -/
def mon (t : PT) : Prop := ∀ Q a (R R' : St → Prop), (∀ b, R b → R' b) → t Q a R → t Q a R'
/-- the least fixpoint: from a the method ends, and Q holds of its answer -/
def WX (T : Nat → PT) (Q : Rt) (a : St) : Prop := ∀ R : St → Prop, (∀ b, T b.1 Q b R → R b) → R a
theorem WX_fix {T : Nat → PT} (hT : ∀ n, mon (T n)) (Q : Rt) (a : St) : WX T Q a = T a.1 Q a (WX T Q) := by
  have h1 : ∀ a, T a.1 Q a (WX T Q) → WX T Q a := fun a h R hR => hR a (hT a.1 Q a (WX T Q) R (fun b hb => hb R hR) h)
  refine propext ⟨fun h => ?_, h1 a⟩
  exact h (fun b => T b.1 Q b (WX T Q)) (fun b hb => hT b.1 Q b _ _ h1 hb)
def fail : PT := fun _ _ _ => False
theorem mon_fail : mon fail := fun _ _ _ _ _ h => h.elim
def nd (b : Bool) (t u : PT) : PT := cond b t u
theorem mon_nd {b : Bool} {t u : PT} (h1 : mon t) (h2 : mon u) : mon (nd b t u) := by cases b <;> assumption
/-- a walk's standing facts -/
def cxt (K : Cx) (d : Nat) (code : ByteArray) (own : String) (ini : Bool) (p : Program) (l : Launch) (R : Room) (s : State) (m : MethodId) (args : Array Value) (meth : Method) (c : Code) : Prop :=
  p.tables.exec = Jvm.exec ∧ c.code = code ∧ s.vm.findClass own = some m.cls ∧ (∀ w ∈ LG, w.before args s = true) ∧ stC K s ∧ (d + 1 ≤ R.frames ∧ 64 * (d + 1) ≤ R.locals) ∧ l = xl K ∧ (ini = true → meth.name = "<init>")
def gdS (K : Cx) (p : Program) (l : Launch) (e : Env) (R : Room) (s : State) (m : MethodId) (args : Array Value) (below : List Frame) (meth : Method) (c : Code) (Qf : State → Prop) : St → Prop := fun a =>
  ∀ (ls : Array Slot) (H : Heap) (locs : List Loc) (cells slots : Nat), lrE K a.2.1 ls → a.2.1.length = c.maxLocals → rpH K a.2.2.2.2.1 a.2.2.2.2.2.1 a.2.2.2.2.2.2 s H → va_S (xA K) s.heap H locs → cells + a.2.2.2.1.1 ≤ R.cells → slots + a.2.2.2.1.2 ≤ R.slots →
    W p l e R s m args below meth c H locs cells slots Qf (F0 m a.1 ls (a.2.2.1.map (cv K)))
def rtn (K : Cx) (code : ByteArray) (ret : Option FieldType) (Q : Rt) (p : Program) (l : Launch) (e : Env) (R : Room) (s : State) (m : MethodId) (args : Array Value) (below : List Frame) (meth : Method) (c : Code) (Qf : State → Prop) : Prop :=
  ∀ (x : Int32) (σ : Sg) (mm : Mm) (ll : Ml) (ls : Array Slot) (H : Heap) (locs : List Loc) (cells slots pc : Nat), Q x σ mm ll → rpH K σ mm ll s H → va_S (xA K) s.heap H locs → cells ≤ R.cells → slots ≤ R.slots →
    match ret with
    | none => decode code pc = .ok (.return_, 1) → x = 0 → W p l e R s m args below meth c H locs cells slots Qf (F0 m pc ls [])
    | some ty => decode code pc = .ok (.ireturn, 1) → narrow ty (.int x) = .int x → W p l e R s m args below meth c H locs cells slots Qf (F0 m pc ls [.int x])
/-- an instruction is sound at a place -/
def snd (K : Cx) (d : Nat) (code : ByteArray) (own : String) (ini : Bool) (ret : Option FieldType) (t : PT) (pc : Nat) : Prop :=
  ∀ (p : Program) (l : Launch) (e : Env) (R : Room) (s : State) (m : MethodId) (args : Array Value) (below : List Frame) (meth : Method) (c : Code) (Qf : State → Prop) (Q : Rt), cxt K d code own ini p l R s m args meth c → rtn K code ret Q p l e R s m args below meth c Qf →
    ∀ (env st : List Value) (b : Bd) (σ : Sg) (mm : Mm) (ll : Ml) (G : St → Prop), t Q (pc, env, st, b, σ, mm, ll) G → (∀ a, G a → gdS K p l e R s m args below meth c Qf a) → gdS K p l e R s m args below meth c Qf (pc, env, st, b, σ, mm, ll)
theorem snd_fail {K : Cx} {d : Nat} {code : ByteArray} {own : String} {ini : Bool} {ret : Option FieldType} (pc : Nat) : snd K d code own ini ret fail pc := fun _ _ _ _ _ _ _ _ _ _ _ _ _ _ _ _ _ _ _ _ _ h _ => h.elim
theorem snd_nd {K : Cx} {d : Nat} {code : ByteArray} {own : String} {ini : Bool} {ret : Option FieldType} {f g : Nat → PT} (k : Nat) (h1 : ∀ pc, snd K d code own ini ret (f pc) pc) (h2 : ∀ pc, snd K d code own ini ret (g pc) pc) (pc : Nat) : snd K d code own ini ret (nd (Nat.ble pc k) (f pc) (g pc)) pc := by
  cases h : Nat.ble pc k
  · exact h2 pc
  · exact h1 pc
theorem snd_lf {K : Cx} {d : Nat} {code : ByteArray} {own : String} {ini : Bool} {ret : Option FieldType} {t : PT} (k : Nat) (h1 : snd K d code own ini ret t k) (pc : Nat) : snd K d code own ini ret (nd (Nat.beq pc k) t fail) pc := by
  cases h : Nat.beq pc k
  · exact snd_fail pc
  · have e : pc = k := Nat.eq_of_beq_eq_true h
    subst e
    exact h1
theorem WX_snd {K : Cx} {d : Nat} {code : ByteArray} {own : String} {ini : Bool} {ret : Option FieldType} {T : Nat → PT} (hT : ∀ n, snd K d code own ini ret (T n) n) {p : Program} {l : Launch} {e : Env} {R : Room} {s : State} {m : MethodId} {args : Array Value} {below : List Frame} {meth : Method} {c : Code} {Qf : State → Prop} {Q : Rt}
    (hC : cxt K d code own ini p l R s m args meth c) (hR : rtn K code ret Q p l e R s m args below meth c Qf) {a : St} (h : WX T Q a) : gdS K p l e R s m args below meth c Qf a := by
  refine h _ (fun b hb => ?_)
  obtain ⟨pc, env, st, bd, σ, mm, ll⟩ := b
  exact hT pc p l e R s m args below meth c Qf Q hC hR env st bd σ mm ll _ hb (fun _ h => h)
