/-! arrays of references, what is made, strings, the script, calls -/
def iMin : PT := fun _ a G => match a.2.2.1 with
  | .int y :: .int x :: st => okS 0 st ∧ G (a.1 + 3, a.2.1, .int (if y < x then y else x) :: st, a.2.2.2)
  | _ => False
def upC (m : Mm) (o o2 sp dp n : Nat) : Mm := fun b => if b = o2 then va_cpy (m o) (m o2) sp dp n else m b
def iCopy : PT := fun _ a G => match a.2.2.1 with
  | .int n :: .int dp :: .ref o2 :: .int sp :: .ref o :: st => okS 0 st ∧ isO a.2.2.2.2.1 o 100 ∧ isO a.2.2.2.2.1 o2 100 ∧ ¬ sp < 0 ∧ ¬ dp < 0 ∧ ¬ n < 0 ∧ sp.toNatClampNeg + n.toNatClampNeg ≤ ln a.2.2.2.2.1 o ∧ dp.toNatClampNeg + n.toNatClampNeg ≤ ln a.2.2.2.2.1 o2 ∧
      G (a.1 + 3, a.2.1, st, a.2.2.2.1, a.2.2.2.2.1, upC a.2.2.2.2.2.1 o o2 sp.toNatClampNeg dp.toNatClampNeg n.toNatClampNeg, a.2.2.2.2.2.2)
  | _ => False
def iObj : PT := fun _ a G => match a.2.2.1 with
  | .ref _ :: st => okS 0 st ∧ G (a.1 + 3, a.2.1, st, a.2.2.2)
  | _ => False
/-- String's fields of a constant: its row, its coder -/
def iGetSV : PT := fun _ a G => match a.2.2.1 with
  | .retAddr i :: st => i < 7 ∧ G (a.1 + 3, a.2.1, .retAddr (1000 + i) :: st, a.2.2.2)
  | _ => False
def iGetSC : PT := fun _ a G => match a.2.2.1 with
  | .retAddr i :: st => i < 7 ∧ G (a.1 + 3, a.2.1, .int 0 :: st, a.2.2.2)
  | _ => False
def iLenS : PT := fun _ a G => match a.2.2.1 with
  | .retAddr j :: st => 1000 ≤ j ∧ j < 1007 ∧ G (a.1 + 1, a.2.1, .int (nI (sLn.getD (j - 1000) 0)) :: st, a.2.2.2)
  | _ => False
def iLdS : PT := fun _ a G => match a.2.2.1 with
  | .int i :: .retAddr j :: st => 1000 ≤ j ∧ j < 1007 ∧ vp_in i (sLn.getD (j - 1000) 0) ∧ G (a.1 + 1, a.2.1, .int ((sBy.getD (j - 1000) []).getD i.toNatClampNeg 0) :: st, a.2.2.2)
  | _ => False
def iLenX (K : Cx) : PT := fun _ a G => match a.2.2.1 with
  | .retAddr 2000 :: st => G (a.1 + 1, a.2.1, .int (nI (xL K)) :: st, a.2.2.2)
  | _ => False
def iLdX (K : Cx) : PT := fun _ a G => match a.2.2.1 with
  | .int i :: .retAddr 2000 :: st => vp_in i (xL K) ∧ G (a.1 + 1, a.2.1, .int (xs K i.toNatClampNeg) :: st, a.2.2.2)
  | _ => False
def rtv (Y : Yt) (r : Int32) (st : List Value) : List Value := match Y.2.2.2.1 with
  | none => st
  | some _ => .int r :: st
def iCV (K : Cx) (d n c : Nat) (Y : Yt) : PT := fun _ a G => match a.2.2.1.drop n with
  | .ref o :: st => isO a.2.2.2.2.1 o c ∧ okS 0 st ∧ Y.2.2.2.2.1 ≤ a.2.2.2.1.1 ∧ Y.2.2.2.2.2 ≤ a.2.2.2.1.2 ∧ CT K d Y (.ref o :: (a.2.2.1.take n).reverse) a.2.2.2.2.1 a.2.2.2.2.2.1 a.2.2.2.2.2.2 (fun r σ m l => G (a.1 + 3, a.2.1, rtv Y r st, (a.2.2.2.1.1 - Y.2.2.2.2.1, a.2.2.2.1.2 - Y.2.2.2.2.2), σ, m, l))
  | _ => False
def iCI (K : Cx) (d n : Nat) (Y : Yt) : PT := fun _ a G => match a.2.2.1.drop n with
  | .ref o :: st => okS 0 st ∧ Y.2.2.2.2.1 ≤ a.2.2.2.1.1 ∧ Y.2.2.2.2.2 ≤ a.2.2.2.1.2 ∧ CT K d Y (.ref o :: (a.2.2.1.take n).reverse) a.2.2.2.2.1 a.2.2.2.2.2.1 a.2.2.2.2.2.2 (fun r σ m l => G (a.1 + 3, a.2.1, rtv Y r st, (a.2.2.2.1.1 - Y.2.2.2.2.1, a.2.2.2.1.2 - Y.2.2.2.2.2), σ, m, l))
  | _ => False
def iCVs (K : Cx) (d n : Nat) (Y : Yt) : PT := fun _ a G => match a.2.2.1.drop n with
  | .retAddr o :: st => o < 7 ∧ okS 0 st ∧ Y.2.2.2.2.1 ≤ a.2.2.2.1.1 ∧ Y.2.2.2.2.2 ≤ a.2.2.2.1.2 ∧ CT K d Y (.retAddr o :: (a.2.2.1.take n).reverse) a.2.2.2.2.1 a.2.2.2.2.2.1 a.2.2.2.2.2.2 (fun r σ m l => G (a.1 + 3, a.2.1, rtv Y r st, (a.2.2.2.1.1 - Y.2.2.2.2.1, a.2.2.2.1.2 - Y.2.2.2.2.2), σ, m, l))
  | _ => False
def iCS (K : Cx) (d n : Nat) (Y : Yt) : PT := fun _ a G => n ≤ a.2.2.1.length ∧ okS 0 (a.2.2.1.drop n) ∧ Y.2.2.2.2.1 ≤ a.2.2.2.1.1 ∧ Y.2.2.2.2.2 ≤ a.2.2.2.1.2 ∧ CT K d Y ((a.2.2.1.take n).reverse) a.2.2.2.2.1 a.2.2.2.2.2.1 a.2.2.2.2.2.2 (fun r σ m l => G (a.1 + 3, a.2.1, rtv Y r (a.2.2.1.drop n), (a.2.2.2.1.1 - Y.2.2.2.2.1, a.2.2.2.1.2 - Y.2.2.2.2.2), σ, m, l))
section SND5
variable {K : Cx} {d : Nat} {code : ByteArray} {own : String} {ini : Bool} {ret : Option FieldType} {pc : Nat}
theorem ref_core {c o : Nat} {i : Int32} {σ : Sg} {mm : Mm} {ll : Ml} {s : State} {H : Heap} {r : vw_C} (hr : rpH K σ mm ll s H) (hc : vwCl[c]? = some r) (ho : isO σ o (110 + c)) (hin : vp_in i (ln σ o)) : ∃ cA, ArrOfT s cA (.object r.1) ∧ va_RA s cA (.object r.1) ∧ H[xB K + o]? = some (arrV cA (ln σ o) (fun j => cv K (σ.2.2 o j))) ∧ i.toNatClampNeg < ln σ o ∧ ¬ (i < 0 ∨ (arrV cA (ln σ o) (fun j => cv K (σ.2.2 o j))).slots.size ≤ i.toNatClampNeg) := by
  obtain ⟨ho1, ho2⟩ := ho
  obtain ⟨r', cA, q0, q1, q2, q3⟩ := (hr.2 o ho1).2.2 (by rw [ho2]; omega)
  rw [ho2, Nat.add_sub_cancel_left] at q0
  cases q0.symm.trans hc
  refine ⟨cA, q1, q2, q3, Nat.not_le.mp fun q => hin (Or.inr q), ?_⟩
  rw [arrV_size]
  exact hin
theorem snd_aald {c : Nat} {r : vw_C} (hdg : decode code pc = .ok (.aaload, 1)) (hc : vwCl[c]? = some r) : snd K d code own ini ret (iALdA (110 + c)) pc := by
  intro p l e R s m args below meth cc Qf Q hC hR env st b σ mm ll G h kk ls H locs cells slots hE hn hr hS h1 h2
  unfold iALdA at h
  split at h
  · next i o st' hst =>
    subst hst
    obtain ⟨ho, hin, h⟩ := h
    obtain ⟨cA, g1, -, g2, g3, g4⟩ := ref_core hr hc ho hin
    exact W.aald (v := cv K (σ.2.2 o i.toNatClampNeg)) (ty := .object r.1) hC.1 hC.2.1 g2 (g1 _ _) rfl (fun q => by cases q) g4 (by rw [arrV_read _ _ g3]) rfl rfl hdg (kk _ h ls H locs cells slots hE hn hr hS h1 h2)
  · exact h.elim
theorem snd_aast {c : Nat} {r : vw_C} (hdg : decode code pc = .ok (.aastore, 1)) (hc : vwCl[c]? = some r) (hlt : c < 100) : snd K d code own ini ret (iAStA c) pc := by
  intro p l e R s m args below meth cc Qf Q hC hR env st b σ mm ll G h kk ls H locs cells slots hE hn hr hS h1 h2
  unfold iAStA at h
  split at h
  · next x i o st' hst =>
    subst hst
    obtain ⟨ho, hx, hin, h⟩ := h
    obtain ⟨cA, g1, gR, g2, g3, g4⟩ := ref_core hr hc ho hin
    obtain ⟨hx1, hx2⟩ := hx
    obtain ⟨r', e1, e2⟩ := (hr.2 x hx1).1 (by rw [hx2]; exact hlt)
    rw [hx2] at e1 e2
    cases e1.symm.trans hc
    obtain ⟨cellV, f1, f2, f3, -⟩ := e2
    have hcls := (hC.2.2.2.2.1.1.1 c r hc).2
    obtain ⟨kA, comp, k1, k2, k3, k4⟩ := gR
    have hcomp : comp = (xD K).1 c := Option.some.inj (k3.symm.trans hcls.1)
    subst hcomp
    obtain ⟨kC, hkC, -⟩ := hcls.2
    refine W.aast hC.1 hC.2.1 g2 (fun q h => by cases h) (fun h => by cases h) k1 k2 rfl hkC ⟨fun q => hin (Or.inl q), by rw [arrV_size]; exact g3⟩ f1 (fun q h => by rw [f3] at h; cases h) (by rw [f2]; exact hkC) (by rw [f2]; exact va_assign hcls) rfl rfl hdg fun H1 e z oq => ?_
    obtain ⟨ho1, ho2⟩ := ho
    refine kk _ h ls H1 _ cells slots hE hn (hr.set (o := o) rfl z oq (fun b hb => ⟨rfl, by simp [upR, hb], rfl, rfl⟩) ⟨fun g => absurd g (by simp only [upR]; rw [ho2]; omega), fun _ g => absurd g (by simp only [upR]; rw [ho2]; omega), fun _ => ?_⟩) (hS.put z oq (Nat.le_add_right _ _)) h1 h2
    simp only [upR]
    rw [ho2, Nat.add_sub_cancel_left]
    refine ⟨r, cA, hc, g1, ⟨kA, _, k1, k2, k3, k4⟩, ?_⟩
    rw [e, arrV_store]
    show some (arrV cA (ln σ o) _) = some (arrV cA (ln σ o) _)
    congr 2
    funext j
    by_cases hj : j = i.toNatClampNeg
    · subst hj
      simp [updV, cv]
    · simp [updV, hj]
  · exact h.elim
theorem snd_new {c N index : Nat} {C : String} {TT : u_T} {ty0 : Nat → FieldType} (hdg : decode code pc = .ok (.new index, 3)) (hc : vwCl[c]? = some (C, TT, N)) (hin : ∀ w ∈ u_ws C TT N, w ∈ LG) (hty : ∀ k, k < N → parseFieldDescriptor (TT k).2.2.1 = some (ty0 k)) (hw1 : Cond.classLink own index C ∈ LG) (hw2 : Cond.instantiable C N ∈ LG) (hw3 : Cond.initialized C ∈ LG) (hlt : c < 100) (hdf : ∀ k, k < N → defaultValue (ty0 k) = match fkd c k with | 0 => .int 0 | 1 => .null | _ => .long 0) : snd K d code own ini ret (iNew c N) pc := by
  intro p l e R s m args below meth cc Qf Q hC hR env st b σ mm ll G h kk ls H locs cells slots hE hn hr hS h1 h2
  obtain ⟨g1, g2, h⟩ := h
  dsimp only at g1 g2 h1 h2
  obtain ⟨hx, hb, hown, hts, hst, -⟩ := hC
  have hKn := hst.1.1 c _ hc
  refine W.newcK hx hb hown (hts _ hw1) (hts _ hw2) (hts _ hw3) rfl hdg (by omega) (by omega) hKn.2.1 rfl fun H1 kC hkC e1 z1 o1 => ?_
  have hb2 := u_born ty0 hts hin hKn hkC e1 hty
  have e2 : H.size = xB K + σ.1 := hr.1
  have := kk _ h ls H1 locs (cells + 1) (slots + N) hE hn (hr.add (t := c) (N := N) z1 o1 ⟨fun _ => ?_, fun g => absurd g (by simp only [upN, if_pos]; omega), fun g => absurd g (by simp only [upN, if_pos]; omega)⟩) ⟨Nat.le_trans hS.1 (by omega), fun x q1 q2 => (o1 x (Nat.lt_of_lt_of_le q1 hS.1)).trans (hS.2.1 x q1 q2), hS.2.2⟩ (by dsimp only; omega) (by dsimp only; omega)
  · dsimp only [List.map_cons, cv] at this
    rw [e2]
    exact this
  · simp only [upN, if_pos]
    refine ⟨_, hc, ?_⟩
    rw [← e2]
    refine hb2.to (fun k hk => ?_)
    rw [hdf k hk]
    simp only [fvl, zeM, zeL, if_pos]
    generalize fkd c k = z
    match z with
    | 0 => rfl
    | 1 => rfl
    | z + 2 => rfl
theorem snd_newa {t : Nat} {at0 : ArrayType} (hdg : decode code pc = .ok (.newarray at0, 2)) (hw : Cond.arrayClass (newarray.typeOf at0) ∈ LG) (ht : newarray.typeOf at0 = aty t) (h100 : 100 ≤ t) (h110 : t < 110) (hcb : componentBytes (newarray.typeOf at0) ≤ 8) (hdf : defaultValue (newarray.typeOf at0) = .int 0) : snd K d code own ini ret (iNewA t) pc := by
  intro p l e R s m args below meth cc Qf Q hC hR env st b σ mm ll G h kk ls H locs cells slots hE hn hr hS h1 h2
  unfold iNewA at h
  split at h
  · next n st' hst =>
    subst hst
    obtain ⟨n0, n1, g1, g2, h⟩ := h
    dsimp only at g1 g2 h1 h2
    obtain ⟨hx, hb, hown, hts, hst, -⟩ := hC
    have e2 : H.size = xB K + σ.1 := hr.1
    refine va_newaK hx hb (hts _ hw) rfl hdg rfl n0 rfl ?_ (by omega) (by omega) rfl fun H1 cA e1 z1 o1 hAr hNm => ?_
    · exact Nat.le_trans (Nat.mul_le_mul n1 hcb) (by omega)
    · have := kk _ h ls H1 locs (cells + 1) (slots + n.toNatClampNeg) hE hn (hr.add (t := t) (N := n.toNatClampNeg) z1 o1 ⟨fun g => absurd g (by simp only [upN, if_pos]; omega), fun _ _ => ⟨cA, by simp only [upN, if_pos]; rw [← ht]; exact hAr, ?_⟩, fun g => absurd g (by simp only [upN, if_pos]; omega)⟩) ⟨Nat.le_trans hS.1 (by omega), fun x q1 q2 => (o1 x (Nat.lt_of_lt_of_le q1 hS.1)).trans (hS.2.1 x q1 q2), hS.2.2⟩ (by dsimp only; omega) (by dsimp only; omega)
      · dsimp only [List.map_cons, cv] at this
        rw [e2]
        exact this
      · simp only [upN, zeM, if_pos]
        rw [← e2, e1, hdf]
  · exact h.elim
theorem snd_newq {c index : Nat} {r : vw_C} (hdg : decode code pc = .ok (.anewarray index, 3)) (hc : vwCl[c]? = some r) (hw1 : Cond.classLink own index r.1 ∈ LG) (hov : r.1 = "NightWells$Row" ∨ r.1 = "NightWells$Plain") : snd K d code own ini ret (iNewQ (110 + c)) pc := by
  intro p l e R s m args below meth cc Qf Q hC hR env st b σ mm ll G h kk ls H locs cells slots hE hn hr hS h1 h2
  unfold iNewQ at h
  split at h
  · next n st' hst =>
    subst hst
    obtain ⟨n0, n1, g1, g2, h⟩ := h
    dsimp only at g1 g2 h1 h2
    obtain ⟨hx, hb, hown, hts, hst, -⟩ := hC
    have e2 : H.size = xB K + σ.1 := hr.1
    have hov' : va_AO r.1 s := by
      rcases hov with q | q
      · rw [q]; exact hst.2.2.2.2.2.2.1.1
      · rw [q]; exact hst.2.2.2.2.2.2.1.2
    refine W.anew hx hb hown (hts _ hw1) (va_AO.use hov') rfl hdg rfl n0 (by omega) (by omega) (by omega) fun cA kA comp f1 f2 f3 f4 => ?_
    generalize hH1 : H.push ({ cls := cA, slots := Array.replicate n.toNatClampNeg .null, vm := .none } : Cell) = H1
    have z1 : H1.size = H.size + 1 := by rw [← hH1, Array.size_push]
    have e1 : H1[H.size]? = some (arrV cA n.toNatClampNeg (fun _ => .null)) := by rw [← hH1, Array.getElem?_push_size, ← arrV_new]
    have o1 : ∀ q : Nat, q < H.size → H1[q]? = H[q]? := fun q hq => by rw [← hH1, Array.getElem?_push, if_neg (Nat.ne_of_lt hq)]
    have hAr : ArrOfT s cA (.object r.1) := fun N z => ⟨(fun k h => by cases h), kA, f2, comp, f3⟩
    have := kk _ h ls H1 locs (cells + 1) (slots + n.toNatClampNeg) hE hn (hr.add (t := 110 + c) (N := n.toNatClampNeg) z1 o1 ⟨fun g => absurd g (by simp only [upN, if_pos]; omega), fun _ g => absurd g (by simp only [upN, if_pos]; omega), fun _ => ?_⟩) ⟨Nat.le_trans hS.1 (by omega), fun x q1 q2 => (o1 x (Nat.lt_of_lt_of_le q1 hS.1)).trans (hS.2.1 x q1 q2), hS.2.2⟩ (by dsimp only; omega) (by dsimp only; omega)
    · dsimp only [List.map_cons, cv] at this
      rw [e2]
      exact this
    · simp only [upN, if_pos, Nat.add_sub_cancel_left]
      exact ⟨r, cA, hc, hAr, ⟨kA, comp, f2, f3, f4, f1⟩, by rw [← e2, e1]; rfl⟩
  · exact h.elim
theorem snd_obj {index : Nat} (hdg : decode code pc = .ok (.invokespecial index, 3)) (hw1 : Cond.methodLink own index objectInit ∈ LG) (hw2 : Cond.instanceMethod objectInit ∈ LG) (hw3 : Cond.code objectInit ⟨#[0xb1]⟩ 1 none ∈ LG) : snd K d code own ini ret iObj pc := by
  intro p l e R s m args below meth cc Qf Q hC hR env st b σ mm ll G h kk ls H locs cells slots hE hn hr hS h1 h2
  unfold iObj at h
  split at h
  · next o st' hst =>
    subst hst
    obtain ⟨hok, h⟩ := h
    obtain ⟨hx, hb, hown, hts, -, ⟨hR1, hR2⟩, -⟩ := hC
    refine W.objInit hx hb hown (hts _ hw1) (hts _ hw2) (hts _ hw3) rfl (by show ls.size = _; rw [hE.1]; exact hn) rfl hdg (by omega) ?_ (kk _ h ls H locs cells slots hE hn hr hS h1 h2)
    have := okS_cv K hok
    show 2 * 0 + _ + 12 ≤ _
    omega
  · exact h.elim
theorem snd_min {index : Nat} (hdg : decode code pc = .ok (.invokestatic index, 3)) (hw1 : Cond.methodLink own index Lib.Math.min.name ∈ LG) (hw2 : Cond.static Lib.Math.min.name ∈ LG) (hw3 : Cond.initialized "java/lang/Math" ∈ LG) (hw4 : Cond.code Lib.Math.min.name Lib.Math.min.code 2 (some .int) ∈ LG) : snd K d code own ini ret iMin pc := by
  intro p l e R s m args below meth cc Qf Q hC hR env st b σ mm ll G h kk ls H locs cells slots hE hn hr hS h1 h2
  unfold iMin at h
  split at h
  · next y x st' hst =>
    subst hst
    obtain ⟨hok, h⟩ := h
    obtain ⟨hx, hb, hown, hts, -, ⟨hR1, hR2⟩, -⟩ := hC
    have := okS_cv K hok
    exact va_mmin hx hb (by rw [hE.1]; exact hn.symm) hown (hts _ hw1) (hts _ hw2) (hts _ hw3) (hts _ hw4) (by omega) (by omega) (by dsimp only at h1; omega) (by dsimp only at h2; omega) hdg (kk _ h ls H locs cells slots hE hn hr hS h1 h2)
  · exact h.elim
theorem snd_gets {index : Nat} {C n ds : String} {v : Value} (hdg : decode code pc = .ok (.getstatic index, 3)) (hw : Cond.fieldLink own index C n ds ∈ LG) (hZ : ∀ U, stC K U → va_Z C n ds (cv K v) (xA K) U U.heap) : snd K d code own ini ret (iPush 3 v) pc := by
  intro p l e R s m args below meth cc Qf Q hC hR env st b σ mm ll G h kk ls H locs cells slots hE hn hr hS h1 h2
  exact va_gets hC.1 hC.2.1 (hZ s hC.2.2.2.2.1) hS hC.2.2.1 (hC.2.2.2.1 _ hw) (fun _ q => q) hdg (kk _ h ls H locs cells slots hE hn hr hS h1 h2)
theorem xsp_s {i : Nat} (h : i < 7) : xsp K i = xK K i := by rw [xsp, if_pos (by omega)]
theorem xsp_v {i : Nat} (h : i < 7) : xsp K (1000 + i) = xV K i := by rw [xsp, if_neg (by omega), if_pos (by omega), Nat.add_sub_cancel_left]
theorem snd_getSV {index : Nat} (hdg : decode code pc = .ok (.getfield index, 3)) (hw : Cond.fieldLink own index "java/lang/String" "value" "[B" ∈ LG) : snd K d code own ini ret iGetSV pc := by
  intro p l e R s m args below meth cc Qf Q hC hR env st b σ mm ll G h kk ls H locs cells slots hE hn hr hS h1 h2
  unfold iGetSV at h
  split at h
  · next i st' hst =>
    subst hst
    obtain ⟨hi, h⟩ := h
    have hk := kk _ h ls H locs cells slots hE hn hr hS h1 h2
    simp only [List.map_cons, cv_s K (show i < 2001 by omega), cv_s K (show 1000 + i < 2001 by omega)] at hk ⊢
    rw [xsp_v hi] at hk
    rw [xsp_s hi]
    exact vk_getf hC.1 hC.2.1 (hC.2.2.2.2.1.2.1.1 i hi).2.2.1 hS hC.2.2.1 (hC.2.2.2.1 _ hw) (fun _ q => q) hdg hk
  · exact h.elim
theorem snd_getSC {index : Nat} (hdg : decode code pc = .ok (.getfield index, 3)) (hw : Cond.fieldLink own index "java/lang/String" "coder" "B" ∈ LG) : snd K d code own ini ret iGetSC pc := by
  intro p l e R s m args below meth cc Qf Q hC hR env st b σ mm ll G h kk ls H locs cells slots hE hn hr hS h1 h2
  unfold iGetSC at h
  split at h
  · next i st' hst =>
    subst hst
    obtain ⟨hi, h⟩ := h
    have hk := kk _ h ls H locs cells slots hE hn hr hS h1 h2
    simp only [List.map_cons, cv_s K (show i < 2001 by omega)] at hk ⊢
    rw [xsp_s hi]
    exact vk_getf hC.1 hC.2.1 (hC.2.2.2.2.1.2.1.1 i hi).2.1 hS hC.2.2.1 (hC.2.2.2.1 _ hw) (fun _ q => q) hdg hk
  · exact h.elim
theorem snd_lenS (hdg : decode code pc = .ok (.arraylength, 1)) : snd K d code own ini ret iLenS pc := by
  intro p l e R s m args below meth cc Qf Q hC hR env st b σ mm ll G h kk ls H locs cells slots hE hn hr hS h1 h2
  unfold iLenS at h
  split at h
  · next j st' hst =>
    subst hst
    obtain ⟨hj1, hj2, h⟩ := h
    obtain ⟨i, rfl⟩ : ∃ i, j = 1000 + i := ⟨j - 1000, by omega⟩
    have hi : i < 7 := by omega
    have hk := kk _ h ls H locs cells slots hE hn hr hS h1 h2
    simp only [List.map_cons, cv_s K (show 1000 + i < 2001 by omega)] at hk ⊢
    rw [Nat.add_sub_cancel_left] at hk
    rw [xsp_v hi]
    exact va_tlen hC.1 hC.2.1 (hC.2.2.2.2.1.2.1.1 i hi).2.2.2 hS rfl hdg hk
  · exact h.elim
theorem snd_ldS (hdg : decode code pc = .ok (.baload, 1)) : snd K d code own ini ret iLdS pc := by
  intro p l e R s m args below meth cc Qf Q hC hR env st b σ mm ll G h kk ls H locs cells slots hE hn hr hS h1 h2
  unfold iLdS at h
  split at h
  · next x j st' hst =>
    subst hst
    obtain ⟨hj1, hj2, hin, h⟩ := h
    obtain ⟨i, rfl⟩ : ∃ i, j = 1000 + i := ⟨j - 1000, by omega⟩
    have hi : i < 7 := by omega
    have hk := kk _ h ls H locs cells slots hE hn hr hS h1 h2
    simp only [List.map_cons, cv_s K (show 1000 + i < 2001 by omega)] at hk ⊢
    rw [Nat.add_sub_cancel_left] at hk hin
    rw [xsp_v hi]
    exact va_tb hC.1 hC.2.1 (hC.2.2.2.2.1.2.1.1 i hi).2.2.2 hS hin rfl hdg hk
  · exact h.elim
theorem snd_lenX (hdg : decode code pc = .ok (.arraylength, 1)) : snd K d code own ini ret (iLenX K) pc := by
  intro p l e R s m args below meth cc Qf Q hC hR env st b σ mm ll G h kk ls H locs cells slots hE hn hr hS h1 h2
  unfold iLenX at h
  split at h
  · next st' hst =>
    subst hst
    obtain ⟨x1, x2, x3⟩ := hC.2.2.2.2.1.2.2.2.2.2.2.2.1
    exact va_slen hC.1 hC.2.1 x1 x3 (Nat.not_le.mpr x2) hS hdg (kk _ h ls H locs cells slots hE hn hr hS h1 h2)
  · exact h.elim
theorem snd_ldX (hdg : decode code pc = .ok (.iaload, 1)) : snd K d code own ini ret (iLdX K) pc := by
  intro p l e R s m args below meth cc Qf Q hC hR env st b σ mm ll G h kk ls H locs cells slots hE hn hr hS h1 h2
  unfold iLdX at h
  split at h
  · next i st' hst =>
    subst hst
    obtain ⟨hin, h⟩ := h
    obtain ⟨x1, x2, x3⟩ := hC.2.2.2.2.1.2.2.2.2.2.2.2.1
    exact va_sld hC.1 hC.2.1 x1 x3 (Nat.not_le.mpr x2) hS hin hdg (kk _ h ls H locs cells slots hE hn hr hS h1 h2)
  · exact h.elim
end SND5
