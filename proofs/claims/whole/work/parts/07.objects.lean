/-! objects, arrays, what is made -/
def iGetI (c k : Nat) : PT := fun _ a G => match a.2.2.1 with
  | .ref o :: st => isO a.2.2.2.2.1 o c ∧ G (a.1 + 3, a.2.1, .int (a.2.2.2.2.2.1 o k) :: st, a.2.2.2)
  | _ => False
def iGetA (c k : Nat) : PT := fun _ a G => match a.2.2.1 with
  | .ref o :: st => isO a.2.2.2.2.1 o c ∧ G (a.1 + 3, a.2.1, rf a.2.2.2.2.1 o k :: st, a.2.2.2)
  | _ => False
def iGetL (c k : Nat) : PT := fun _ a G => match a.2.2.1 with
  | .ref o :: st => isO a.2.2.2.2.1 o c ∧ G (a.1 + 3, a.2.1, .long (a.2.2.2.2.2.2 o k) :: st, a.2.2.2)
  | _ => False
def iPutI (c k : Nat) : PT := fun _ a G => match a.2.2.1 with
  | .int x :: .ref o :: st => isO a.2.2.2.2.1 o c ∧ G (a.1 + 3, a.2.1, st, a.2.2.2.1, a.2.2.2.2.1, upM a.2.2.2.2.2.1 o k x, a.2.2.2.2.2.2)
  | _ => False
def iPutZ (c k : Nat) : PT := fun _ a G => match a.2.2.1 with
  | .int x :: .ref o :: st => isO a.2.2.2.2.1 o c ∧ (x = 0 ∨ x = 1) ∧ G (a.1 + 3, a.2.1, st, a.2.2.2.1, a.2.2.2.2.1, upM a.2.2.2.2.2.1 o k x, a.2.2.2.2.2.2)
  | _ => False
def iPutL (c k : Nat) : PT := fun _ a G => match a.2.2.1 with
  | .long x :: .ref o :: st => isO a.2.2.2.2.1 o c ∧ G (a.1 + 3, a.2.1, st, a.2.2.2.1, a.2.2.2.2.1, a.2.2.2.2.2.1, upL a.2.2.2.2.2.2 o k x)
  | _ => False
def iPutA (c k : Nat) : PT := fun _ a G => match a.2.2.1 with
  | .ref x :: .ref o :: st => isO a.2.2.2.2.1 o c ∧ G (a.1 + 3, a.2.1, st, a.2.2.2.1, upR a.2.2.2.2.1 o k (.ref x), a.2.2.2.2.2)
  | _ => False
def iALd (t : Nat) : PT := fun _ a G => match a.2.2.1 with
  | .int i :: .ref o :: st => isO a.2.2.2.2.1 o t ∧ vp_in i (ln a.2.2.2.2.1 o) ∧ G (a.1 + 1, a.2.1, .int (a.2.2.2.2.2.1 o i.toNatClampNeg) :: st, a.2.2.2)
  | _ => False
def iALdA (t : Nat) : PT := fun _ a G => match a.2.2.1 with
  | .int i :: .ref o :: st => isO a.2.2.2.2.1 o t ∧ vp_in i (ln a.2.2.2.2.1 o) ∧ G (a.1 + 1, a.2.1, rf a.2.2.2.2.1 o i.toNatClampNeg :: st, a.2.2.2)
  | _ => False
def iASt (t : Nat) : PT := fun _ a G => match a.2.2.1 with
  | .int x :: .int i :: .ref o :: st => isO a.2.2.2.2.1 o t ∧ vp_in i (ln a.2.2.2.2.1 o) ∧ G (a.1 + 1, a.2.1, st, a.2.2.2.1, a.2.2.2.2.1, upM a.2.2.2.2.2.1 o i.toNatClampNeg (vp_nar (aty t) x), a.2.2.2.2.2.2)
  | _ => False
def iAStA (c : Nat) : PT := fun _ a G => match a.2.2.1 with
  | .ref x :: .int i :: .ref o :: st => isO a.2.2.2.2.1 o (110 + c) ∧ isO a.2.2.2.2.1 x c ∧ vp_in i (ln a.2.2.2.2.1 o) ∧ G (a.1 + 1, a.2.1, st, a.2.2.2.1, upR a.2.2.2.2.1 o i.toNatClampNeg (.ref x), a.2.2.2.2.2)
  | _ => False
def iNew (c N : Nat) : PT := fun _ a G => 1 ≤ a.2.2.2.1.1 ∧ N ≤ a.2.2.2.1.2 ∧ G (a.1 + 3, a.2.1, .ref a.2.2.2.2.1.1 :: a.2.2.1, (a.2.2.2.1.1 - 1, a.2.2.2.1.2 - N), upN a.2.2.2.2.1 c N, zeM a.2.2.2.2.2.1 a.2.2.2.2.1.1, zeL a.2.2.2.2.2.2 a.2.2.2.2.1.1)
def iNewA (t : Nat) : PT := fun _ a G => match a.2.2.1 with
  | .int n :: st => ¬ n < 0 ∧ n.toNatClampNeg ≤ 100000 ∧ 1 ≤ a.2.2.2.1.1 ∧ n.toNatClampNeg ≤ a.2.2.2.1.2 ∧ G (a.1 + 2, a.2.1, .ref a.2.2.2.2.1.1 :: st, (a.2.2.2.1.1 - 1, a.2.2.2.1.2 - n.toNatClampNeg), upN a.2.2.2.2.1 t n.toNatClampNeg, zeM a.2.2.2.2.2.1 a.2.2.2.2.1.1, zeL a.2.2.2.2.2.2 a.2.2.2.2.1.1)
  | _ => False
def iNewQ (t : Nat) : PT := fun _ a G => match a.2.2.1 with
  | .int n :: st => ¬ n < 0 ∧ n.toNatClampNeg ≤ 100000 ∧ 1 ≤ a.2.2.2.1.1 ∧ n.toNatClampNeg ≤ a.2.2.2.1.2 ∧ G (a.1 + 3, a.2.1, .ref a.2.2.2.2.1.1 :: st, (a.2.2.2.1.1 - 1, a.2.2.2.1.2 - n.toNatClampNeg), upN a.2.2.2.2.1 t n.toNatClampNeg, zeM a.2.2.2.2.2.1 a.2.2.2.2.1.1, zeL a.2.2.2.2.2.2 a.2.2.2.2.1.1)
  | _ => False
theorem cel.to {K : Cx} {σ σ' : Sg} {m m' : Mm} {l l' : Ml} {a : Nat} {U : State} {H H1 : Heap} (h : cel K σ m l a U H) (e1 : σ'.2.1 a = σ.2.1 a) (e2 : σ'.2.2 a = σ.2.2 a) (e3 : m' a = m a) (e4 : l' a = l a) (eH : H1[xB K + a]? = H[xB K + a]?) : cel K σ' m' l' a U H1 := by
  obtain ⟨h1, h2, h3⟩ := h
  refine ⟨?_, ?_, ?_⟩
  · rw [e1]
    intro g
    obtain ⟨r, q1, q2⟩ := h1 g
    refine ⟨r, q1, ?_⟩
    have e : fvl K σ' m' l' (σ.2.1 a).1 a = fvl K σ m l (σ.2.1 a).1 a := by
      funext k
      simp only [fvl, e2, e3, e4]
    rw [e]
    exact q2.kept eH
  · rw [e1, e3, eH]
    exact h2
  · rw [e1, e2, eH]
    exact h3
/-- a cell of ours has changed, no other -/
theorem rpH.set {K : Cx} {σ σ' : Sg} {m m' : Mm} {l l' : Ml} {o : Nat} {U : State} {H H1 : Heap} (h : rpH K σ m l U H) (n : σ'.1 = σ.1) (z : H1.size = H.size) (oq : ∀ q : Nat, q ≠ xB K + o → H1[q]? = H[q]?) (e1 : ∀ b, b ≠ o → σ'.2.1 b = σ.2.1 b ∧ σ'.2.2 b = σ.2.2 b ∧ m' b = m b ∧ l' b = l b) (hc : cel K σ' m' l' o U H1) : rpH K σ' m' l' U H1 := by
  refine ⟨by rw [z, n]; exact h.1, fun a ha => ?_⟩
  by_cases e : a = o
  · rw [e]; exact hc
  · obtain ⟨q1, q2, q3, q4⟩ := e1 a e
    exact (h.2 a (by rw [← n]; exact ha)).to q1 q2 q3 q4 (oq _ (by omega))
/-- a cell has come -/
theorem rpH.add {K : Cx} {σ : Sg} {m : Mm} {l : Ml} {t N : Nat} {U : State} {H H1 : Heap} (h : rpH K σ m l U H) (z : H1.size = H.size + 1) (oq : ∀ q : Nat, q < H.size → H1[q]? = H[q]?) (hc : cel K (upN σ t N) (zeM m σ.1) (zeL l σ.1) σ.1 U H1) : rpH K (upN σ t N) (zeM m σ.1) (zeL l σ.1) U H1 := by
  refine ⟨by rw [z, h.1]; rfl, fun a ha => ?_⟩
  have ha : a < σ.1 + 1 := ha
  by_cases e : a = σ.1
  · rw [e]; exact hc
  · have hl : a < σ.1 := by omega
    exact (h.2 a hl).to (by simp [upN, e]) (by simp [upN, e]) (by simp [zeM, e]) (by simp [zeL, e]) (oq _ (by rw [h.1]; omega))
section SND4
variable {K : Cx} {d : Nat} {code : ByteArray} {own : String} {ini : Bool} {ret : Option FieldType} {pc : Nat}
theorem get_core {c k N index o : Nat} {C nm ds : String} {TT : u_T} {fin : Bool} {p : Program} {l : Launch} {e : Env} {R : Room} {s : State} {m : MethodId} {args : Array Value} {below : List Frame} {meth : Method} {cc : Code} {Qf : State → Prop} {σ : Sg} {mm : Mm} {ll : Ml} {H : Heap} {locs : List Loc} {cells slots : Nat} {ls : Array Slot} {rest : List Value}
    (hdg : decode code pc = .ok (.getfield index, 3)) (hc : vwCl[c]? = some (C, TT, N)) (hin : ∀ w ∈ u_ws C TT N, w ∈ LG) (hk : k < N) (hT : TT k = (C, nm, ds, fin)) (hw : Cond.fieldLink own index C nm ds ∈ LG) (hlt : c < 100)
    (hC : cxt K d code own ini p l R s m args meth cc) (hr : rpH K σ mm ll s H) (ho : isO σ o c) (kk : W p l e R s m args below meth cc H locs cells slots Qf (F0 m (pc + 3) ls (fvl K σ mm ll c o k :: rest))) : W p l e R s m args below meth cc H locs cells slots Qf (F0 m pc ls (.ref (xB K + o) :: rest)) := by
  obtain ⟨hx, hb, hown, hts, hst, -⟩ := hC
  obtain ⟨ho1, ho2⟩ := ho
  obtain ⟨r, h1, h2⟩ := (hr.2 o ho1).1 (by rw [ho2]; exact hlt)
  rw [ho2] at h1 h2
  cases h1.symm.trans hc
  obtain ⟨cell, q1, q2, q3, q4⟩ := h2
  obtain ⟨hS, hfc, kC, hkC, hkind⟩ := hst.1.1 c _ hc
  obtain ⟨cf, kf, fi, f, hi, hsl⟩ := hS k hk
  have hi' : s.fieldFound? C nm ds = some (cf, kf, fi, f) := by
    have := hi
    simp only [hT] at this
    exact this
  refine W.getf hx hb hown (hts _ hw) hi' (u_facts hfc hkC (u_lays hts hin hk) hi).1 q1 (by rw [q3]; exact fun h => by cases h) (v := fvl K σ mm ll c o k) ?_ rfl rfl hdg kk
  rw [hsl]
  exact q4 k hk
theorem snd_getI {c k N index : Nat} {C nm ds : String} {TT : u_T} {fin : Bool} (hdg : decode code pc = .ok (.getfield index, 3)) (hc : vwCl[c]? = some (C, TT, N)) (hin : ∀ w ∈ u_ws C TT N, w ∈ LG) (hk : k < N) (hT : TT k = (C, nm, ds, fin)) (hw : Cond.fieldLink own index C nm ds ∈ LG) (hlt : c < 100) (hf : fkd c k = 0) : snd K d code own ini ret (iGetI c k) pc := by
  intro p l e R s m args below meth cc Qf Q hC hR env st b σ mm ll G h kk ls H locs cells slots hE hn hr hS h1 h2
  unfold iGetI at h
  split at h
  · next o st' hst =>
    subst hst
    obtain ⟨ho, h⟩ := h
    refine get_core hdg hc hin hk hT hw hlt hC hr ho ?_
    have e : fvl K σ mm ll c o k = .int (mm o k) := by simp only [fvl, hf]
    have := kk _ h ls H locs cells slots hE hn hr hS h1 h2
    dsimp only at this ⊢
    rw [e]
    exact this
  · exact h.elim
theorem snd_getA {c k N index : Nat} {C nm ds : String} {TT : u_T} {fin : Bool} (hdg : decode code pc = .ok (.getfield index, 3)) (hc : vwCl[c]? = some (C, TT, N)) (hin : ∀ w ∈ u_ws C TT N, w ∈ LG) (hk : k < N) (hT : TT k = (C, nm, ds, fin)) (hw : Cond.fieldLink own index C nm ds ∈ LG) (hlt : c < 100) (hf : fkd c k = 1) : snd K d code own ini ret (iGetA c k) pc := by
  intro p l e R s m args below meth cc Qf Q hC hR env st b σ mm ll G h kk ls H locs cells slots hE hn hr hS h1 h2
  unfold iGetA at h
  split at h
  · next o st' hst =>
    subst hst
    obtain ⟨ho, h⟩ := h
    refine get_core hdg hc hin hk hT hw hlt hC hr ho ?_
    have e : fvl K σ mm ll c o k = cv K (rf σ o k) := by simp only [fvl, hf, rf]
    have := kk _ h ls H locs cells slots hE hn hr hS h1 h2
    dsimp only at this ⊢
    rw [e]
    exact this
  · exact h.elim
theorem snd_getL {c k N index : Nat} {C nm ds : String} {TT : u_T} {fin : Bool} (hdg : decode code pc = .ok (.getfield index, 3)) (hc : vwCl[c]? = some (C, TT, N)) (hin : ∀ w ∈ u_ws C TT N, w ∈ LG) (hk : k < N) (hT : TT k = (C, nm, ds, fin)) (hw : Cond.fieldLink own index C nm ds ∈ LG) (hlt : c < 100) (hf : fkd c k = 2) : snd K d code own ini ret (iGetL c k) pc := by
  intro p l e R s m args below meth cc Qf Q hC hR env st b σ mm ll G h kk ls H locs cells slots hE hn hr hS h1 h2
  unfold iGetL at h
  split at h
  · next o st' hst =>
    subst hst
    obtain ⟨ho, h⟩ := h
    refine get_core hdg hc hin hk hT hw hlt hC hr ho ?_
    have e : fvl K σ mm ll c o k = .long (ll o k) := by simp only [fvl, hf]
    have := kk _ h ls H locs cells slots hE hn hr hS h1 h2
    dsimp only at this ⊢
    rw [e]
    exact this
  · exact h.elim
/-- a field is written: not final, or final in the constructor -/
theorem put_core {c k N index o : Nat} {C nm ds : String} {TT : u_T} {fin : Bool} {ty : FieldType} {v : Value} {ty0 : Nat → FieldType} {σ' : Sg} {mm' : Mm} {ll' : Ml} {p : Program} {l : Launch} {e : Env} {R : Room} {s : State} {m : MethodId} {args : Array Value} {below : List Frame} {meth : Method} {cc : Code} {Qf : State → Prop} {σ : Sg} {mm : Mm} {ll : Ml} {H : Heap} {locs : List Loc} {cells slots : Nat} {ls : Array Slot} {rest : List Value}
    (hdg : decode code pc = .ok (.putfield index, 3)) (hc : vwCl[c]? = some (C, TT, N)) (hin : ∀ w ∈ u_ws C TT N, w ∈ LG) (hty : ∀ k, k < N → parseFieldDescriptor (TT k).2.2.1 = some (ty0 k)) (hnm : ∀ a, a < N → ∀ b, b < N → a ≠ b → (TT a).2.1 ≠ (TT b).2.1) (hk : k < N) (hT : TT k = (C, nm, ds, fin)) (hw : Cond.fieldLink own index C nm ds ∈ LG) (hlt : c < 100) (hfin : fin = false ∨ (ini = true ∧ own = C))
    (ht0 : ty0 k = ty) (hnar : narrow ty v = v) (hfit : fits ty v = true)
    (hC : cxt K d code own ini p l R s m args meth cc) (hr : rpH K σ mm ll s H) (hS0 : va_S (xA K) s.heap H locs) (ho : isO σ o c)
    (en : σ'.1 = σ.1) (es : σ'.2.1 = σ.2.1) (eo : ∀ b, b ≠ o → σ'.2.2 b = σ.2.2 b ∧ mm' b = mm b ∧ ll' b = ll b) (ev : ∀ j, j < N → fvl K σ' mm' ll' c o j = if j = k then v else fvl K σ mm ll c o j)
    (kk : ∀ (H1 : Heap) (locs1 : List Loc), rpH K σ' mm' ll' s H1 → va_S (xA K) s.heap H1 locs1 → W p l e R s m args below meth cc H1 locs1 cells slots Qf (F0 m (pc + 3) ls rest)) : W p l e R s m args below meth cc H locs cells slots Qf (F0 m pc ls (v :: .ref (xB K + o) :: rest)) := by
  obtain ⟨hx, hb, hown, hts, hst, -, -, hini⟩ := hC
  obtain ⟨ho1, ho2⟩ := ho
  obtain ⟨r, h1, h2⟩ := (hr.2 o ho1).1 (by rw [ho2]; exact hlt)
  rw [ho2] at h1 h2
  cases h1.symm.trans hc
  obtain ⟨cell, q1, q2, q3, q4⟩ := h2
  have hK := hst.1
  have hap := va_apart (own := own) hts hin ty0 hty hnm hK hc
  obtain ⟨hSl, hfc, kC, hkC, hkind⟩ := hK.1 c _ hc
  obtain ⟨cf, kf, fi, f, hi, hsl⟩ := hSl k hk
  have hi' : s.fieldFound? C nm ds = some (cf, kf, fi, f) := by
    have := hi
    simp only [hT] at this
    exact this
  have hd : parseFieldDescriptor (TT k).2.2.1 = some ty := by rw [hty k hk, ht0]
  have hstf := (u_facts hfc hkC (u_lays hts hin hk) hi).1
  have hA : xA K (xB K + o) := Nat.le_add_right _ _
  have fin' : ∀ (H1 : Heap), H1[xB K + o]? = some (cell.setSlot f.slot v) → H1.size = H.size → (∀ q, q ≠ xB K + o → H1[q]? = H[q]?) → rpH K σ' mm' ll' s H1 := by
    intro H1 e1 e2 e3
    refine hr.set (o := o) en e2 e3 (fun b hb => ⟨by rw [es], (eo b hb).1, (eo b hb).2.1, (eo b hb).2.2⟩) ⟨fun _ => ?_, fun g1 _ => absurd g1 (by rw [es, ho2]; omega), fun g1 => absurd g1 (by rw [es, ho2]; omega)⟩
    rw [es, ho2]
    refine ⟨_, hc, cell.setSlot f.slot v, e1, q2, q3, fun j hj => ?_⟩
    rw [ev j hj]
    by_cases hjk : j = k
    · subst hjk
      rw [if_pos rfl, hsl]
      have hlt2 := k2_hasslot (q4 j hk)
      simp [Cell.setSlot, hlt2]
    · rw [if_neg hjk, slot_ne cell v (by rw [hsl]; exact fun q => hap j k hj hk hjk q.symm)]
      exact q4 j hj
  have hlay := hts _ (hin _ (u_in_lay hk))
  cases fin with
  | false =>
    unfold u_lay at hlay
    rw [if_neg (by rw [hT]; exact Bool.false_ne_true)] at hlay
    have h6 := u_store hfc hkC hkind hlay hi hd hnar hfit
    refine W.putK hx hb (f := f) ⟨hown, hts _ hw, ⟨_, _, _, hi'⟩, hstf⟩ (by rw [q2]; exact h6) q1 q3 (by rw [hsl]; exact k2_hasslot (q4 k hk)) rfl rfl hdg fun H' e1 e2 e3 => ?_
    exact kk H' _ (fin' H' e1 e2 e3) (hS0.put e2 e3 hA)
  | true =>
    obtain ⟨hini1, hdecl⟩ : ini = true ∧ own = C := by
      rcases hfin with h | h
      · cases h
      · exact h
    unfold u_lay at hlay
    rw [if_pos (by rw [hT])] at hlay
    have hcf : m.cls = cf := by
      obtain ⟨_, _, c', _, _, _, -, -, hf', -, -, -, hown2, -⟩ := Cond.laysFinal_spec hlay
      have e1 : c' = cf := by have := hi.symm.trans hf'; simp at this; exact this.1.symm
      have hown3 : s.vm.findClass C = some c' := by simpa only [hT] using hown2
      rw [hdecl] at hown
      rw [← e1]; exact Option.some.inj (hown.symm.trans hown3)
    have h6 := u_fits hfc hkC hkind (Or.inr hlay) hi hd hnar hfit
    refine W.putFinK hx hb hown (hts _ hw) hi' hstf hcf (hini hini1) (by rw [q2]; exact h6) q1 q3 (by rw [hsl]; exact k2_hasslot (q4 k hk)) rfl rfl hdg fun H' e1 e2 e3 => ?_
    exact kk H' _ (fin' H' e1 e2 e3) (hS0.put e2 e3 hA)
theorem snd_putI {c k N index : Nat} {C nm ds : String} {TT : u_T} {fin : Bool} {ty0 : Nat → FieldType} (hdg : decode code pc = .ok (.putfield index, 3)) (hc : vwCl[c]? = some (C, TT, N)) (hin : ∀ w ∈ u_ws C TT N, w ∈ LG) (hty : ∀ k, k < N → parseFieldDescriptor (TT k).2.2.1 = some (ty0 k)) (hnm : ∀ a, a < N → ∀ b, b < N → a ≠ b → (TT a).2.1 ≠ (TT b).2.1) (hk : k < N) (hT : TT k = (C, nm, ds, fin)) (hw : Cond.fieldLink own index C nm ds ∈ LG) (hlt : c < 100) (hfin : fin = false) (ht0 : ty0 k = .int) (hf : fkd c k = 0) : snd K d code own ini ret (iPutI c k) pc := by
  intro p l e R s m args below meth cc Qf Q hC hR env st b σ mm ll G h kk ls H locs cells slots hE hn hr hS h1 h2
  unfold iPutI at h
  split at h
  · next x o st' hst =>
    subst hst
    obtain ⟨ho, h⟩ := h
    refine put_core (v := .int x) hdg hc hin hty hnm hk hT hw hlt (Or.inl hfin) ht0 rfl rfl hC hr hS ho (σ' := σ) (mm' := upM mm o k x) (ll' := ll) rfl rfl (fun b hb => ⟨rfl, upM_n mm k x hb, rfl⟩) (fun j hj => ?_) (fun H1 locs1 g1 g2 => kk _ h ls H1 locs1 cells slots hE hn g1 g2 h1 h2)
    by_cases hjk : j = k
    · subst hjk
      simp only [fvl, hf, upM_s, upd, if_pos]
    · rw [if_neg hjk]
      simp only [fvl, upM_s, upd, if_neg hjk]
  · exact h.elim
theorem snd_putZ {c k N index : Nat} {C nm ds : String} {TT : u_T} {fin : Bool} {ty0 : Nat → FieldType} (hdg : decode code pc = .ok (.putfield index, 3)) (hc : vwCl[c]? = some (C, TT, N)) (hin : ∀ w ∈ u_ws C TT N, w ∈ LG) (hty : ∀ k, k < N → parseFieldDescriptor (TT k).2.2.1 = some (ty0 k)) (hnm : ∀ a, a < N → ∀ b, b < N → a ≠ b → (TT a).2.1 ≠ (TT b).2.1) (hk : k < N) (hT : TT k = (C, nm, ds, fin)) (hw : Cond.fieldLink own index C nm ds ∈ LG) (hlt : c < 100) (hfin : fin = false) (ht0 : ty0 k = .boolean) (hf : fkd c k = 0) : snd K d code own ini ret (iPutZ c k) pc := by
  intro p l e R s m args below meth cc Qf Q hC hR env st b σ mm ll G h kk ls H locs cells slots hE hn hr hS h1 h2
  unfold iPutZ at h
  split at h
  · next x o st' hst =>
    subst hst
    obtain ⟨ho, hz, h⟩ := h
    refine put_core (v := .int x) hdg hc hin hty hnm hk hT hw hlt (Or.inl hfin) ht0 (by rcases hz with rfl | rfl <;> rfl) (by rcases hz with rfl | rfl <;> rfl) hC hr hS ho (σ' := σ) (mm' := upM mm o k x) (ll' := ll) rfl rfl (fun b hb => ⟨rfl, upM_n mm k x hb, rfl⟩) (fun j hj => ?_) (fun H1 locs1 g1 g2 => kk _ h ls H1 locs1 cells slots hE hn g1 g2 h1 h2)
    by_cases hjk : j = k
    · subst hjk
      simp only [fvl, hf, upM_s, upd, if_pos]
    · rw [if_neg hjk]
      simp only [fvl, upM_s, upd, if_neg hjk]
  · exact h.elim
theorem snd_putL {c k N index : Nat} {C nm ds : String} {TT : u_T} {fin : Bool} {ty0 : Nat → FieldType} (hdg : decode code pc = .ok (.putfield index, 3)) (hc : vwCl[c]? = some (C, TT, N)) (hin : ∀ w ∈ u_ws C TT N, w ∈ LG) (hty : ∀ k, k < N → parseFieldDescriptor (TT k).2.2.1 = some (ty0 k)) (hnm : ∀ a, a < N → ∀ b, b < N → a ≠ b → (TT a).2.1 ≠ (TT b).2.1) (hk : k < N) (hT : TT k = (C, nm, ds, fin)) (hw : Cond.fieldLink own index C nm ds ∈ LG) (hlt : c < 100) (hfin : fin = false) (ht0 : ty0 k = .long) (hf : fkd c k = 2) : snd K d code own ini ret (iPutL c k) pc := by
  intro p l e R s m args below meth cc Qf Q hC hR env st b σ mm ll G h kk ls H locs cells slots hE hn hr hS h1 h2
  unfold iPutL at h
  split at h
  · next x o st' hst =>
    subst hst
    obtain ⟨ho, h⟩ := h
    refine put_core (v := .long x) hdg hc hin hty hnm hk hT hw hlt (Or.inl hfin) ht0 rfl rfl hC hr hS ho (σ' := σ) (mm' := mm) (ll' := upL ll o k x) rfl rfl (fun b hb => ⟨rfl, rfl, upL_n ll k x hb⟩) (fun j hj => ?_) (fun H1 locs1 g1 g2 => kk _ h ls H1 locs1 cells slots hE hn g1 g2 h1 h2)
    by_cases hjk : j = k
    · subst hjk
      simp only [fvl, hf, upL_s, if_pos]
    · rw [if_neg hjk]
      simp only [fvl, upL_s, if_neg hjk]
  · exact h.elim
theorem snd_putA {c k N index : Nat} {C nm ds : String} {TT : u_T} {fin : Bool} {ty0 : Nat → FieldType} (hdg : decode code pc = .ok (.putfield index, 3)) (hc : vwCl[c]? = some (C, TT, N)) (hin : ∀ w ∈ u_ws C TT N, w ∈ LG) (hty : ∀ k, k < N → parseFieldDescriptor (TT k).2.2.1 = some (ty0 k)) (hnm : ∀ a, a < N → ∀ b, b < N → a ≠ b → (TT a).2.1 ≠ (TT b).2.1) (hk : k < N) (hT : TT k = (C, nm, ds, fin)) (hw : Cond.fieldLink own index C nm ds ∈ LG) (hlt : c < 100) (hfin : fin = false ∨ (ini = true ∧ own = C)) (ht0 : (∃ n, ty0 k = .object n) ∨ ∃ t, ty0 k = .array t) (hf : fkd c k = 1) : snd K d code own ini ret (iPutA c k) pc := by
  intro p l e R s m args below meth cc Qf Q hC hR env st b σ mm ll G h kk ls H locs cells slots hE hn hr hS h1 h2
  unfold iPutA at h
  split at h
  · next x o st' hst =>
    subst hst
    obtain ⟨ho, h⟩ := h
    refine put_core (v := cv K (.ref x)) hdg hc hin hty hnm hk hT hw hlt hfin rfl (by rcases ht0 with ⟨n, e⟩ | ⟨n, e⟩ <;> rw [e] <;> rfl) (by rcases ht0 with ⟨n, e⟩ | ⟨n, e⟩ <;> rw [e] <;> rfl) hC hr hS ho (σ' := upR σ o k (.ref x)) (mm' := mm) (ll' := ll) rfl rfl (fun b hb => ⟨by simp [upR, hb], rfl, rfl⟩) (fun j hj => ?_) (fun H1 locs1 g1 g2 => kk _ h ls H1 locs1 cells slots hE hn g1 g2 h1 h2)
    by_cases hjk : j = k
    · subst hjk
      simp only [fvl, hf, upR, if_pos]
    · rw [if_neg hjk]
      simp only [fvl, upR, if_pos, if_neg hjk]
  · exact h.elim
theorem arr_core {t o : Nat} {i : Int32} {σ : Sg} {mm : Mm} {ll : Ml} {s : State} {H : Heap} (hr : rpH K σ mm ll s H) (ho : isO σ o t) (h1 : 100 ≤ t) (h2 : t < 110) (hin : vp_in i (ln σ o)) : ∃ cA, s.isArrayOf (arrV cA (ln σ o) (fun j => .int (mm o j))) (aty t) ∧ ArrOfT s cA (aty t) ∧ H[xB K + o]? = some (arrV cA (ln σ o) (fun j => .int (mm o j))) ∧ i.toNatClampNeg < ln σ o ∧ ¬ (i < 0 ∨ (arrV cA (ln σ o) (fun j => Value.int (mm o j))).slots.size ≤ i.toNatClampNeg) := by
  obtain ⟨ho1, ho2⟩ := ho
  obtain ⟨cA, q1, q2⟩ := (hr.2 o ho1).2.1 (by rw [ho2]; exact h1) (by rw [ho2]; exact h2)
  rw [ho2] at q1
  refine ⟨cA, q1 _ _, q1, q2, Nat.not_le.mp fun q => hin (Or.inr q), ?_⟩
  rw [arrV_size]
  exact hin
theorem snd_iald (hdg : decode code pc = .ok (.iaload, 1)) : snd K d code own ini ret (iALd 100) pc := by
  intro p l e R s m args below meth cc Qf Q hC hR env st b σ mm ll G h kk ls H locs cells slots hE hn hr hS h1 h2
  unfold iALd at h
  split at h
  · next i o st' hst =>
    subst hst
    obtain ⟨ho, hin, h⟩ := h
    obtain ⟨cA, g1, -, g2, g3, g4⟩ := arr_core hr ho (by omega) (by omega) hin
    exact W.iald (v := .int (mm o i.toNatClampNeg)) hC.1 hC.2.1 g2 g1 (fun q => by cases q) g4 (by rw [arrV_read _ _ g3]) rfl rfl hdg (kk _ h ls H locs cells slots hE hn hr hS h1 h2)
  · exact h.elim
theorem snd_bald (hdg : decode code pc = .ok (.baload, 1)) : snd K d code own ini ret (iALd 101) pc := by
  intro p l e R s m args below meth cc Qf Q hC hR env st b σ mm ll G h kk ls H locs cells slots hE hn hr hS h1 h2
  unfold iALd at h
  split at h
  · next i o st' hst =>
    subst hst
    obtain ⟨ho, hin, h⟩ := h
    obtain ⟨cA, g1, -, g2, g3, g4⟩ := arr_core hr ho (by omega) (by omega) hin
    exact W.bald (v := .int (mm o i.toNatClampNeg)) hC.1 hC.2.1 g2 g1 (fun q => by cases q) g4 (by rw [arrV_read _ _ g3]) rfl rfl hdg (kk _ h ls H locs cells slots hE hn hr hS h1 h2)
  · exact h.elim
theorem snd_zald (hdg : decode code pc = .ok (.baload, 1)) : snd K d code own ini ret (iALd 102) pc := by
  intro p l e R s m args below meth cc Qf Q hC hR env st b σ mm ll G h kk ls H locs cells slots hE hn hr hS h1 h2
  unfold iALd at h
  split at h
  · next i o st' hst =>
    subst hst
    obtain ⟨ho, hin, h⟩ := h
    obtain ⟨cA, g1, -, g2, g3, g4⟩ := arr_core hr ho (by omega) (by omega) hin
    exact W.zald (v := .int (mm o i.toNatClampNeg)) hC.1 hC.2.1 g2 g1 (fun q => by cases q) g4 (by rw [arrV_read _ _ g3]) rfl rfl hdg (kk _ h ls H locs cells slots hE hn hr hS h1 h2)
  · exact h.elim
theorem arr_put {t o k : Nat} {x : Int32} {σ : Sg} {mm : Mm} {ll : Ml} {s : State} {H H1 : Heap} {cA : ClassId} (hr : rpH K σ mm ll s H) (ho : isO σ o t) (h1 : 100 ≤ t) (h2 : t < 110) (hA : ArrOfT s cA (aty t)) (e : H1[xB K + o]? = some ((arrV cA (ln σ o) (fun j => .int (mm o j))).setSlot k (.int x))) (z : H1.size = H.size) (oq : ∀ q, q ≠ xB K + o → H1[q]? = H[q]?) : rpH K σ (upM mm o k x) ll s H1 := by
  obtain ⟨ho1, ho2⟩ := ho
  refine hr.set (o := o) rfl z oq (fun b hb => ⟨rfl, rfl, upM_n mm k x hb, rfl⟩) ⟨fun g => absurd g (by rw [ho2]; omega), fun _ _ => ⟨cA, by rw [ho2]; exact hA, ?_⟩, fun g => absurd g (by rw [ho2]; omega)⟩
  rw [e, arrV_store]
  show some (arrV cA (ln σ o) _) = some (arrV cA (ln σ o) _)
  congr 2
  funext j
  by_cases hj : j = k
  · subst hj
    simp [updV, upM_s, upd]
  · simp [updV, upM_s, upd, hj]
theorem snd_iast (hdg : decode code pc = .ok (.iastore, 1)) : snd K d code own ini ret (iASt 100) pc := by
  intro p l e R s m args below meth cc Qf Q hC hR env st b σ mm ll G h kk ls H locs cells slots hE hn hr hS h1 h2
  unfold iASt at h
  split at h
  · next x i o st' hst =>
    subst hst
    obtain ⟨ho, hin, h⟩ := h
    obtain ⟨cA, g1, gA, g2, g3, g4⟩ := arr_core hr ho (by omega) (by omega) hin
    exact W.iast hC.1 hC.2.1 g2 g1 (fun q => by cases q) g4 rfl rfl hdg fun H1 e z oq => kk _ h ls H1 _ cells slots hE hn (arr_put hr ho (by omega) (by omega) gA e z oq) (hS.put z oq (Nat.le_add_right _ _)) h1 h2
  · exact h.elim
theorem snd_bast (hdg : decode code pc = .ok (.bastore, 1)) : snd K d code own ini ret (iASt 101) pc := by
  intro p l e R s m args below meth cc Qf Q hC hR env st b σ mm ll G h kk ls H locs cells slots hE hn hr hS h1 h2
  unfold iASt at h
  split at h
  · next x i o st' hst =>
    subst hst
    obtain ⟨ho, hin, h⟩ := h
    obtain ⟨cA, g1, gA, g2, g3, g4⟩ := arr_core hr ho (by omega) (by omega) hin
    exact W.bast hC.1 hC.2.1 g2 g1 (fun q => by cases q) g4 rfl rfl hdg fun H1 e z oq => kk _ h ls H1 _ cells slots hE hn (arr_put hr ho (by omega) (by omega) gA e z oq) (hS.put z oq (Nat.le_add_right _ _)) h1 h2
  · exact h.elim
theorem snd_zast (hdg : decode code pc = .ok (.bastore, 1)) : snd K d code own ini ret (iASt 102) pc := by
  intro p l e R s m args below meth cc Qf Q hC hR env st b σ mm ll G h kk ls H locs cells slots hE hn hr hS h1 h2
  unfold iASt at h
  split at h
  · next x i o st' hst =>
    subst hst
    obtain ⟨ho, hin, h⟩ := h
    obtain ⟨cA, g1, gA, g2, g3, g4⟩ := arr_core hr ho (by omega) (by omega) hin
    exact W.zast hC.1 hC.2.1 g2 g1 (fun q => by cases q) g4 rfl rfl hdg fun H1 e z oq => kk _ h ls H1 _ cells slots hE hn (arr_put hr ho (by omega) (by omega) gA e z oq) (hS.put z oq (Nat.le_add_right _ _)) h1 h2
  · exact h.elim
end SND4
