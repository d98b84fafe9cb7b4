/-! calls, arraycopy; a contract out of a walk -/
/-- what the tables say of a method -/
def okY (Y : Yt) (n : Nat) : Prop := Cond.code Y.1 Y.2.1 Y.2.2.1 Y.2.2.2.1 ∈ LG ∧ Cond.initialized Y.1.cls ∈ LG ∧ Y.2.2.1 ≤ 40 ∧ Y.1.cls ≠ "java/lang/invoke/MethodHandle" ∧ Y.1.cls ≠ "java/lang/invoke/VarHandle" ∧ (parseMethodDescriptor Y.1.desc).map (fun d => d.parameters.length) = some n
section SND6
variable {K : Cx} {d : Nat} {code : ByteArray} {own : String} {ini : Bool} {ret : Option FieldType} {pc : Nat}
theorem fb_pc {σ : Sg} {m : Mm} {l : Ml} {av : List Value} : FrameBlind (va_Pc av (fun U => rep K σ m l U)) := fun a U g mk q => ⟨q.1, q.2.same rfl rfl⟩
theorem drop_split {α : Type} {n : Nat} {l : List α} {x : α} {r : List α} (h : l.drop n = x :: r) : l = l.take n ++ x :: r ∧ (l.take n).length = n := by
  refine ⟨by rw [← h, List.take_append_drop], ?_⟩
  have h1 : n < l.length := by
    rcases Nat.lt_or_ge n l.length with q | q
    · exact q
    · rw [List.drop_eq_nil_iff.mpr q] at h
      cases h
  rw [List.length_take]
  omega
/-- what follows a call, from what the callee leaves -/
theorem run_post {Y : Yt} {Q0 : Rt} {G : St → Prop} {env : List Value} {a : Array Value} {p : Program} {l : Launch} {e : Env} {R : Room} {s : State} {m : MethodId} {args : Array Value} {below : List Frame} {meth : Method} {cc : Code} {Qf : State → Prop} {H : Heap} {locs : List Loc} {cells slots : Nat} {ls : Array Slot} {rest st0 : List Value} {b : Bd}
    (hr : va_Run p l e R s m args below meth cc H locs cells slots Y.2.2.2.2.1 Y.2.2.2.2.2 (F0 m pc ls st0) (rest.map (cv K)) (qcX K Y.2.2.2.1 Q0 a) (xA K)) (hS : va_S (xA K) s.heap H locs) (hE : lrE K env ls) (hn : env.length = cc.maxLocals) (h1 : cells + b.1 ≤ R.cells) (h2 : slots + b.2 ≤ R.slots) (b1 : Y.2.2.2.2.1 ≤ b.1) (b2 : Y.2.2.2.2.2 ≤ b.2)
    (hQ : ∀ r σ' m' l', Q0 r σ' m' l' → G (pc + 3, env, rtv Y r rest, (b.1 - Y.2.2.2.2.1, b.2 - Y.2.2.2.2.2), σ', m', l')) (kk : ∀ a, G a → gdS K p l e R s m args below meth cc Qf a) : W p l e R s m args below meth cc H locs cells slots Qf (F0 m pc ls st0) := by
  obtain ⟨y, bytes, maxL, rt, mc, ms⟩ := Y
  dsimp only at hr b1 b2 hQ
  cases rt with
  | none =>
    refine va_callv (a := a) hr hS (fun _ _ h => h) (fun _ h => h) (fun u t H1 locs1 ht hvm hp hb hz hk hS1 => ?_)
    have h3 := hb.1.moved hvm.symm
    rw [ht] at h3
    exact kk _ (hQ 0 _ _ _ hp) ls H1 locs1 (cells + mc) (slots + ms) hE hn h3 hS1 (by dsimp only; omega) (by dsimp only; omega)
  | some ty =>
    refine va_calli (a := a) hr hS (fun _ _ h => h) (fun _ h => h) (fun r u t H1 locs1 ht hvm hp hb hz hk hS1 => ?_)
    have h3 := hb.1.moved hvm.symm
    rw [ht] at h3
    exact kk _ (hQ r _ _ _ hp) ls H1 locs1 (cells + mc) (slots + ms) hE hn h3 hS1 (by dsimp only; omega) (by dsimp only; omega)
theorem gd_V {own C : String} {index : Nat} {y : MethodName} {c : Cond} (hc : c ∈ LG) (h1 : Cond.methodLink own index y ∈ LG) (h2 : Cond.instanceMethod y ∈ LG) (h3 : Cond.selects C y y ∈ LG) (h4 : Cond.initialized C ∈ LG) : GoodIn LG (wsV own index C y (c :: LG)) := by
  intro w hw
  have ok : ∀ {w : Cond}, w ∈ LG → w ∈ LG ∧ ((w.onTables && w.keeps) = true ∨ ∃ ty, w = .arrayClass ty) := fun h => ⟨h, good_of_word (LG_good h)⟩
  rcases List.mem_append.mp hw with hw | hw
  · simp only [List.mem_cons, List.not_mem_nil, or_false] at hw
    rcases hw with rfl | rfl | rfl | rfl
    · exact ok h1
    · exact ok h2
    · exact ok h3
    · exact ok h4
  · exact gd_LG0 hc w hw
theorem gd_S {own : String} {index : Nat} {y : MethodName} {c : Cond} (hc : c ∈ LG) (h1 : Cond.methodLink own index y ∈ LG) (h2 : Cond.static y ∈ LG) (h4 : Cond.initialized y.cls ∈ LG) : GoodIn LG (va_wsS own index y (c :: LG)) := by
  intro w hw
  have ok : ∀ {w : Cond}, w ∈ LG → w ∈ LG ∧ ((w.onTables && w.keeps) = true ∨ ∃ ty, w = .arrayClass ty) := fun h => ⟨h, good_of_word (LG_good h)⟩
  rcases List.mem_append.mp hw with hw | hw
  · simp only [List.mem_cons, List.not_mem_nil, or_false] at hw
    rcases hw with rfl | rfl | rfl
    · exact ok h1
    · exact ok h2
    · exact ok h4
  · exact gd_LG0 hc w hw
theorem recv_of' {c o : Nat} {r : vw_C} {σ : Sg} {mm : Mm} {ll : Ml} {s : State} {H : Heap} (hK : stC K s) (hr : rpH K σ mm ll s H) (hc : vwCl[c]? = some r) (hlt : c < 100) (ho : isO σ o c) : ∃ cell : Cell, H[xB K + o]? = some cell ∧ cell.vm.isStatics = false ∧ s.vm.findClass r.1 = some cell.cls := by
  obtain ⟨ho1, ho2⟩ := ho
  obtain ⟨r', h1, h2⟩ := (hr.2 o ho1).1 (by rw [ho2]; exact hlt)
  rw [ho2] at h1 h2
  cases h1.symm.trans hc
  obtain ⟨cell, g1, g2, g3, -⟩ := h2
  exact ⟨cell, g1, by rw [g3]; rfl, by rw [g2]; exact (hK.1.1 c _ hc).2.1⟩
theorem snd_V {n c index : Nat} {Y : Yt} {r : vw_C} (hdg : decode code pc = .ok (.invokevirtual index, 3)) (hY : okY Y n) (hc : vwCl[c]? = some r) (hlt : c < 100) (hcl : Y.1.cls = r.1) (hw1 : Cond.methodLink own index Y.1 ∈ LG) (hw2 : Cond.instanceMethod Y.1 ∈ LG) (hw3 : Cond.selects r.1 Y.1 Y.1 ∈ LG) : snd K d code own ini ret (iCV K d n c Y) pc := by
  intro p l e R s m args below meth cc Qf Q hC hR env st b σ mm ll G h kk ls H locs cells slots hE hn hr hS h1 h2
  unfold iCV at h
  split at h
  · next o rest hst =>
    dsimp only at hst h h1 h2
    obtain ⟨ho, hok, b1, b2, d', hd', Q0, hM, hQ⟩ := h
    obtain ⟨hx, hb, hown, hts, hst0, ⟨hR1, hR2⟩, rfl, -⟩ := hC
    obtain ⟨e1, e2⟩ := drop_split hst
    obtain ⟨y1, y2, y3, y4, y5, y6⟩ := hY
    have hrc := recv_of' hst0 hr hc hlt ho
    refine run_post (Y := Y) (Q0 := Q0) (rest := rest) (b := b) (va_runV (As := (st.take n).reverse.map (cv K)) (rest := rest.map (cv K)) (C := r.1) (b := xB K + o) ⟨hx, hb, rfl, hown, hts⟩ hM (cwV n hts (gd_V y1 hw1 hw2 hw3 (by rw [← hcl]; exact y2)) rfl rfl rfl ⟨hcl, y4, y5, y6⟩ ⟨by show d' + 1 ≤ _; omega, by show 8 + (_ + 11) + 64 * d' ≤ _; omega⟩) ⟨fb_pc, hrc, fun U hU hW => ⟨rfl, rep.of hst0 hr hS hU hW⟩⟩ rfl (by rw [List.length_map, List.length_reverse]; exact e2) (by show ls.size = _; rw [hE.1]; exact hn) ?_ (lv_room (okS_cv K hok)) hdg ⟨by omega, by omega⟩) hS hE hn h1 h2 b1 b2 (fun r σ' m' l' q => hQ r σ' m' l' q) kk
    show st.map (cv K) = _
    rw [← List.map_reverse, List.reverse_reverse]
    conv => lhs; rw [e1]
    rw [List.map_append]
    rfl
  · exact h.elim
theorem snd_I {n index : Nat} {Y : Yt} (hdg : decode code pc = .ok (.invokespecial index, 3)) (hY : okY Y n) (hr0 : Y.2.2.2.1 = none) (hnm : Y.1.name = "<init>") (hw1 : Cond.methodLink own index Y.1 ∈ LG) (hw2 : Cond.instanceMethod Y.1 ∈ LG) : snd K d code own ini ret (iCI K d n Y) pc := by
  intro p l e R s m args below meth cc Qf Q hC hR env st b σ mm ll G h kk ls H locs cells slots hE hn hr hS h1 h2
  unfold iCI at h
  split at h
  · next o rest hst =>
    dsimp only at hst h h1 h2
    obtain ⟨hok, b1, b2, d', hd', Q0, hM, hQ⟩ := h
    obtain ⟨hx, hb, hown, hts, hst0, ⟨hR1, hR2⟩, rfl, -⟩ := hC
    obtain ⟨e1, e2⟩ := drop_split hst
    obtain ⟨y1, y2, y3, y4, y5, y6⟩ := hY
    refine run_post (Y := Y) (Q0 := Q0) (rest := rest) (b := b) (va_runI (As := (st.take n).reverse.map (cv K)) (rest := rest.map (cv K)) (b := xB K + o) ⟨hx, hb, rfl, hown, hts⟩ hM (cwI n hts (gd_LG0 y1) (by rw [hr0]) rfl rfl (hts _ y2) (hts _ hw1) (hts _ hw2) hnm ⟨y4, y5, y6⟩ ⟨by show d' + 1 ≤ _; omega, by show 8 + (_ + 11) + 64 * d' ≤ _; omega⟩) ⟨fb_pc, fun U hU hW => ⟨rfl, rep.of hst0 hr hS hU hW⟩⟩ rfl (by rw [List.length_map, List.length_reverse]; exact e2) (by show ls.size = _; rw [hE.1]; exact hn) ?_ (lv_room (okS_cv K hok)) hdg ⟨by omega, by omega⟩) hS hE hn h1 h2 b1 b2 (fun r σ' m' l' q => hQ r σ' m' l' q) kk
    show st.map (cv K) = _
    rw [← List.map_reverse, List.reverse_reverse]
    conv => lhs; rw [e1]
    rw [List.map_append]
    rfl
  · exact h.elim
theorem snd_IN {n index : Nat} {Y : Yt} {host : String} (hdg : decode code pc = .ok (.invokespecial index, 3)) (hY : okY Y n) (hr0 : Y.2.2.2.1 = none) (hnm : Y.1.name = "<init>") (hw1 : ∀ U, stC K U → va_Nw (.methodLinkNest own index Y.1 host) U) (hw2 : Cond.instanceMethod Y.1 ∈ LG) : snd K d code own ini ret (iCI K d n Y) pc := by
  intro p l e R s m args below meth cc Qf Q hC hR env st b σ mm ll G h kk ls H locs cells slots hE hn hr hS h1 h2
  unfold iCI at h
  split at h
  · next o rest hst =>
    dsimp only at hst h h1 h2
    obtain ⟨hok, b1, b2, d', hd', Q0, hM, hQ⟩ := h
    obtain ⟨hx, hb, hown, hts, hst0, ⟨hR1, hR2⟩, rfl, -⟩ := hC
    obtain ⟨e1, e2⟩ := drop_split hst
    obtain ⟨y1, y2, y3, y4, y5, y6⟩ := hY
    refine run_post (Y := Y) (Q0 := Q0) (rest := rest) (b := b) (va_runIN (As := (st.take n).reverse.map (cv K)) (rest := rest.map (cv K)) (b := xB K + o) ⟨hx, hb, rfl, hown, hts⟩ hM ⟨va_cnB n hts (gd_LG0 y1) (by rw [hr0]) rfl rfl (hw1 s hst0) (hts _ y2) ⟨y4, y5, y6⟩ ⟨by show d' + 1 ≤ _; omega, by show 8 + (_ + 11) + 64 * d' ≤ _; omega⟩, hnm, hts _ hw2⟩ ⟨fb_pc, fun U hU hW => ⟨rfl, rep.of hst0 hr hS hU hW⟩⟩ rfl (by rw [List.length_map, List.length_reverse]; exact e2) (by show ls.size = _; rw [hE.1]; exact hn) ?_ (lv_room (okS_cv K hok)) hdg ⟨by omega, by omega⟩) hS hE hn h1 h2 b1 b2 (fun r σ' m' l' q => hQ r σ' m' l' q) kk
    show st.map (cv K) = _
    rw [← List.map_reverse, List.reverse_reverse]
    conv => lhs; rw [e1]
    rw [List.map_append]
    rfl
  · exact h.elim
theorem snd_Vs {n index : Nat} {Y : Yt} (hdg : decode code pc = .ok (.invokevirtual index, 3)) (hY : okY Y n) (hcl : Y.1.cls = "java/lang/String") (hw1 : Cond.methodLink own index Y.1 ∈ LG) (hw2 : Cond.instanceMethod Y.1 ∈ LG) (hw3 : Cond.selects "java/lang/String" Y.1 Y.1 ∈ LG) : snd K d code own ini ret (iCVs K d n Y) pc := by
  intro p l e R s m args below meth cc Qf Q hC hR env st b σ mm ll G h kk ls H locs cells slots hE hn hr hS h1 h2
  unfold iCVs at h
  split at h
  · next o rest hst =>
    dsimp only at hst h h1 h2
    obtain ⟨ho, hok, b1, b2, d', hd', Q0, hM, hQ⟩ := h
    obtain ⟨hx, hb, hown, hts, hst0, ⟨hR1, hR2⟩, rfl, -⟩ := hC
    obtain ⟨e1, e2⟩ := drop_split hst
    obtain ⟨y1, y2, y3, y4, y5, y6⟩ := hY
    have hrc := vk_recv hst0.2.1 ho hS
    have hv : cv K (.retAddr o) = .ref (xK K o) := by
      rw [cv_s K (by omega), xsp_s ho]
    refine run_post (Y := Y) (Q0 := Q0) (rest := rest) (b := b) (va_runV (As := (st.take n).reverse.map (cv K)) (rest := rest.map (cv K)) (C := "java/lang/String") (b := xK K o) ⟨hx, hb, rfl, hown, hts⟩ hM (cwV n hts (gd_V y1 hw1 hw2 hw3 (by rw [← hcl]; exact y2)) rfl rfl rfl ⟨hcl, y4, y5, y6⟩ ⟨by show d' + 1 ≤ _; omega, by show 8 + (_ + 11) + 64 * d' ≤ _; omega⟩) ⟨fb_pc, hrc, fun U hU hW => ⟨by rw [List.map_cons, hv], rep.of hst0 hr hS hU hW⟩⟩ rfl (by rw [List.length_map, List.length_reverse]; exact e2) (by show ls.size = _; rw [hE.1]; exact hn) ?_ (lv_room (okS_cv K hok)) hdg ⟨by omega, by omega⟩) hS hE hn h1 h2 b1 b2 (fun r σ' m' l' q => hQ r σ' m' l' q) kk
    show st.map (cv K) = _
    rw [← List.map_reverse, List.reverse_reverse]
    conv => lhs; rw [e1]
    rw [List.map_append, List.map_cons, hv]
  · exact h.elim
theorem snd_S {n index : Nat} {Y : Yt} (hdg : decode code pc = .ok (.invokestatic index, 3)) (hY : okY Y n) (hw1 : Cond.methodLink own index Y.1 ∈ LG) (hw2 : Cond.static Y.1 ∈ LG) : snd K d code own ini ret (iCS K d n Y) pc := by
  intro p l e R s m args below meth cc Qf Q hC hR env st b σ mm ll G h kk ls H locs cells slots hE hn hr hS h1 h2
  unfold iCS at h
  dsimp only at h h1 h2
  obtain ⟨hl, hok, b1, b2, d', hd', Q0, hM, hQ⟩ := h
  obtain ⟨hx, hb, hown, hts, hst0, ⟨hR1, hR2⟩, rfl, -⟩ := hC
  obtain ⟨y1, y2, y3, y4, y5, y6⟩ := hY
  refine run_post (Y := Y) (Q0 := Q0) (rest := st.drop n) (b := b) (va_runS (As := (st.take n).reverse.map (cv K)) (rest := (st.drop n).map (cv K)) ⟨hx, hb, rfl, hown, hts⟩ hM (va_cwS n hts (gd_S y1 hw1 hw2 y2) rfl rfl rfl ⟨y4, y5, y6⟩ ⟨by show d' + 1 ≤ _; omega, by show 8 + (_ + 11) + 64 * d' ≤ _; omega⟩) ⟨fb_pc, fun U hU hW => ⟨rfl, rep.of hst0 hr hS hU hW⟩⟩ rfl (by simp; omega) (by show ls.size = _; rw [hE.1]; exact hn) ?_ (lv_room (okS_cv K hok)) hdg ⟨by omega, by omega⟩) hS hE hn h1 h2 b1 b2 (fun r σ' m' l' q => hQ r σ' m' l' q) kk
  show st.map (cv K) = _
  rw [← List.map_reverse, List.reverse_reverse, ← List.map_append, List.take_append_drop]
theorem snd_copy {index : Nat} (hdg : decode code pc = .ok (.invokestatic index, 3)) (hw1 : Cond.methodLink own index arraycopyName ∈ LG) (hw2 : Cond.native arraycopyName ∈ LG) (hw3 : Cond.static arraycopyName ∈ LG) (hw4 : Cond.initialized "java/lang/System" ∈ LG) : snd K d code own ini ret iCopy pc := by
  intro p l e R s m args below meth cc Qf Q hC hR env st b σ mm ll G h kk ls H locs cells slots hE hn hr hS h1 h2
  unfold iCopy at h
  split at h
  · next n dp o2 sp o st' hst =>
    subst hst
    obtain ⟨hok, ho, ho2, n1, n2, n3, n4, n5, h⟩ := h
    dsimp only at ho ho2 n4 n5
    obtain ⟨hx, hb, hown, hts, hst0, ⟨hR1, hR2⟩, -⟩ := hC
    obtain ⟨oa, ob⟩ := ho
    obtain ⟨oa2, ob2⟩ := ho2
    obtain ⟨c0, f1, f2⟩ := (hr.2 o oa).2.1 (by rw [ob]; omega) (by rw [ob]; omega)
    obtain ⟨c1, f3, f4⟩ := (hr.2 o2 oa2).2.1 (by rw [ob2]; omega) (by rw [ob2]; omega)
    rw [ob] at f1
    rw [ob2] at f3
    change ArrOfT s c0 .int at f1
    change ArrOfT s c1 .int at f3
    change H[xB K + o]? = some (arrV c0 (ln σ o) (fun j => .int (mm o j))) at f2
    change H[xB K + o2]? = some (arrV c1 (ln σ o2) (fun j => .int (mm o2 j))) at f4
    have nn : ∀ z : Int32, ¬ z < 0 → z.toInt = (z.toNatClampNeg : Int) := by
      intro z hz
      have hz0 : (0 : Int) ≤ z.toInt := by
        have := Int32.not_lt.mp hz
        simpa using Int32.le_iff_toInt_le.mp this
      show z.toInt = ((z.toInt.toNat : Nat) : Int)
      omega
    have hcat := okS_cv K hok
    have hnf : nativeFrameWords "java/lang/System" "arraycopy" 5 + 11 ≤ 56 := by decide +kernel
    intro T hT X
    obtain ⟨-, k0, hk0, cm0, hkk0⟩ := f1 (ln σ o) (fun j => .int (mm o j))
    obtain ⟨-, k1, hk1, cm1, hkk1⟩ := f3 (ln σ o2) (fun j => .int (mm o2 j))
    obtain ⟨vm', X', step⟩ := X.arraycopy hx hown (hts _ hw1) (hts _ hw2) (hts _ hw3) (hts _ hw4) (src := xB K + o) (dst := xB K + o2) (cs := arrV c0 (ln σ o) (fun j => .int (mm o j))) (cd := arrV c1 (ln σ o2) (fun j => .int (mm o2 j))) (srcPos := sp) (destPos := dp) (n := n) (by rw [hT]; exact f2) (by rw [hT]; exact f4)
      (fun _ h => by cases h) (fun _ h => by cases h) (fun h => by cases h) (fun h => by cases h) hk0 hk1 hkk0 hkk1 (by simp [refKind]) n1 n2 n3
      (by rw [nn sp n1, nn n n3, arrV_size]; omega)
      (by rw [nn dp n2, nn n n3, arrV_size]; omega)
      (fun vm₁ _ i hi => by
        have e : (arrV c0 (ln σ o) (fun j => Value.int (mm o j))).slots.getD (sp.toNatClampNeg + i) .null = .int (mm o (sp.toNatClampNeg + i)) := by
          rw [Array.getD_eq_getD_getElem?, arrV_read _ _ (by omega)]
          rfl
        refine ⟨?_, ?_⟩
        · rw [e]
          rfl
        · rw [e]
          exact trivial)
      (g := F0 m pc ls ((Value.int n :: Value.int dp :: Value.ref o2 :: Value.int sp :: Value.ref o :: st').map (cv K))) rfl (by show ls.size = _; rw [hE.1]; exact hn) (rest := st'.map (cv K)) rfl (by rw [hb]; exact hdg) (by omega) (by show 2 * 0 + _ + _ ≤ _; omega)
    have e1 : copied (arrV c0 (ln σ o) (fun j => Value.int (mm o j))) (arrV c1 (ln σ o2) (fun j => Value.int (mm o2 j))) sp dp n = arrV c1 (ln σ o2) (fun j => .int (va_cpy (mm o) (mm o2) sp.toNatClampNeg dp.toNatClampNeg n.toNatClampNeg j)) := va_copied (fun z => .int z) c0 c1 (mm o) (mm o2) n4
    rw [e1] at X' step
    have hl : xB K + o2 < H.size := (Array.getElem?_eq_some_iff.mp f4).1
    generalize hcl : arrV c1 (ln σ o2) (fun j => Value.int (va_cpy (mm o) (mm o2) sp.toNatClampNeg dp.toNatClampNeg n.toNatClampNeg j)) = cl at X' step
    have hheap : ((T.setVm vm').setCell (xB K + o2) cl).heap = H.setIfInBounds (xB K + o2) cl := by rw [← hT]; rfl
    have oq : ∀ q : Nat, q ≠ xB K + o2 → (H.setIfInBounds (xB K + o2) cl)[q]? = H[q]? := fun q hq => by simp [Array.getElem?_setIfInBounds, Ne.symm hq]
    have hA : xA K (xB K + o2) := Nat.le_add_right _ _
    have hcc : (H.setIfInBounds (xB K + o2) cl)[xB K + o2]? = some (arrV c1 (ln σ o2) (fun j => .int (upC mm o o2 sp.toNatClampNeg dp.toNatClampNeg n.toNatClampNeg o2 j))) := by
      rw [show (H.setIfInBounds (xB K + o2) cl)[xB K + o2]? = some cl by simp [Array.getElem?_setIfInBounds, hl], ← hcl]
      simp only [upC, if_pos]
    have hr1 : rpH K σ (upC mm o o2 sp.toNatClampNeg dp.toNatClampNeg n.toNatClampNeg) ll s (H.setIfInBounds (xB K + o2) cl) :=
      hr.set (σ' := σ) (o := o2) rfl (by simp) oq (fun b hb => ⟨rfl, rfl, by simp [upC, hb], rfl⟩) ⟨fun g => absurd g (by rw [ob2]; omega), fun _ _ => ⟨c1, by rw [ob2]; exact f3, hcc⟩, fun g => absurd g (by rw [ob2]; omega)⟩
    obtain ⟨t, a1, b1⟩ := kk _ h ls _ _ cells slots hE hn hr1 ⟨by simp; exact hS.1, fun q g1 g2 => by
      rw [oq q (fun e => g2 (by rw [e]; exact hA))]
      exact hS.2.1 q g1 g2, fun q hq => by
      rcases List.mem_append.mp hq with h | h
      · exact hS.2.2 q h
      · obtain ⟨z, -, hz⟩ := List.mem_map.mp h
        rw [← hz]
        exact hA⟩ h1 h2 _ hheap X'
    exact ⟨t, step t a1, b1⟩
  · exact h.elim
end SND6
/-- the locals at the entry -/
def enE (vs : List Value) : List Value := vs.flatMap fun v => if v.category = 2 then [v, .float 0] else [v]
theorem enE_len (K : Cx) : ∀ vs : List Value, (lg_sl (vs.map (cv K))).length = (enE vs).length
  | [] => rfl
  | v :: vs => by
    have ih := enE_len K vs
    simp only [lg_sl, enE] at ih
    simp only [lg_sl, enE, List.map_cons, List.flatMap_cons, List.length_append, cv_cat, ih]
    by_cases h : v.category = 2 <;> simp [h]
theorem enE_args (K : Cx) : ∀ (vs : List Value) (n i : Nat) (v : Value), (enE vs)[i]? = some v → (∀ x, v ≠ .float x) → (n + i, cv K v) ∈ lv_args n (vs.map (cv K))
  | [], n, i, v, h, _ => by simp [enE] at h
  | w :: vs, n, i, v, h, hf => by
    by_cases hw : w.category = 2
    · have e : enE (w :: vs) = w :: .float 0 :: enE vs := by simp [enE, hw]
      rw [e] at h
      have hw' : (cv K w).category = 2 := (cv_cat K w).trans hw
      match i, h with
      | 0, h =>
        cases h
        simp [lv_args]
      | 1, h =>
        cases h
        exact absurd rfl (hf 0)
      | i + 2, h =>
        have := enE_args K vs (n + 2) i v h hf
        simp only [List.map_cons, lv_args, hw', if_pos]
        rw [show n + (i + 2) = n + 2 + i by omega]
        simp [this]
    · have e : enE (w :: vs) = w :: enE vs := by simp [enE, hw]
      rw [e] at h
      have hw' : ¬ (cv K w).category = 2 := fun q => hw ((cv_cat K w).symm.trans q)
      match i, h with
      | 0, h =>
        cases h
        simp [lv_args]
      | i + 1, h =>
        have := enE_args K vs (n + 1) i v h hf
        simp only [List.map_cons, lv_args, hw', if_neg, not_false_eq_true]
        rw [show n + (i + 1) = n + 1 + i by omega]
        simp [this]
theorem enE_lr {K : Cx} {av : List Value} {n : Nat} {E : List Value} (hE : enE av ++ List.replicate (n - (enE av).length) (Value.float 0) = E) (hn : (enE av).length ≤ n) : lrE K E ((lg_sl (av.map (cv K)) ++ List.replicate (n - (lg_sl (av.map (cv K))).length) Slot.unset).toArray) ∧ E.length = n := by
  have h := lv_entry (av.map (cv K)) (n := n) (by rw [enE_len]; exact hn)
  subst hE
  have hl : (enE av ++ List.replicate (n - (enE av).length) (Value.float 0)).length = n := by
    simp
    omega
  refine ⟨⟨h.1.trans hl.symm, h.2.1, fun i v hi hv => ?_⟩, hl⟩
  by_cases hlt : i < (enE av).length
  · rw [List.getElem?_append_left hlt] at hi
    have := enE_args K av 0 i v hi hv
    rw [Nat.zero_add] at this
    exact h.2.2 _ this
  · rw [List.getElem?_append_right (by omega)] at hi
    have := List.mem_of_getElem? hi
    rw [List.mem_replicate] at this
    exact absurd this.2 (hv 0)
/-- a contract out of a walk from the entry -/
theorem CT_of {K : Cx} {d : Nat} {own : String} {ini : Bool} {Y : Yt} {T : Nat → PT} (hT : ∀ n, snd K d Y.2.1 own ini Y.2.2.2.1 (T n) n) (hp : plainName Y.1.cls = true) (ho : Y.1.cls = own) (hi : ini = true → Y.1.name = "<init>") (hr : Y.2.2.2.1 = none ∨ Y.2.2.2.1 = some .int ∨ Y.2.2.2.1 = some .boolean ∨ Y.2.2.2.1 = some .char ∨ Y.2.2.2.1 = some .byte)
    {av E : List Value} {σ : Sg} {m : Mm} {l : Ml} {Q : Rt} (hE : enE av ++ List.replicate (Y.2.2.1 - (enE av).length) (Value.float 0) = E) (hn : (enE av).length ≤ Y.2.2.1) (h : WX T Q (0, E, [], (Y.2.2.2.2.1, Y.2.2.2.2.2), σ, m, l)) : CT K (d + 1) Y av σ m l Q := by
  refine ⟨d + 1, Nat.le_refl _, Q, ?_, fun _ _ _ _ q => q⟩
  obtain ⟨y, bytes, maxL, rt, mc, ms⟩ := Y
  dsimp only at *
  refine Met.ofW (cc := bytes) (maxL := maxL) (ret := rt) hp rfl ?_
  intro p e s mi args below meth c s₁ B hml hv
  obtain ⟨rfl, hrep, hst⟩ := hv
  have hts := atoms_spec (ws := Cond.code y bytes maxL rt :: LG) B.pre
  have hown : s.vm.findClass own = some mi.cls := by rw [← ho]; exact findClass_of_methodNamed B.named
  have hC : cxt K d bytes own ini p (xl K) (headSpec (Cond.code y bytes maxL rt :: LG) (rmX (d + 1) mc ms)).room s mi ((av.map (cv K)).toArray) meth c :=
    ⟨B.exec, B.bytes, hown, fun w hw => hts w (List.mem_cons_of_mem _ hw), hst, ⟨Nat.le_refl _, Nat.le_refl _⟩, rfl, fun h => by
      have e1 := (name_of_methodNamed B.named B.method).1
      rw [e1]
      exact hi h⟩
  have hlocks := B.notSynchronized
  have hr9 := B.returns
  have hR : rtn K bytes rt Q p (xl K) e (headSpec (Cond.code y bytes maxL rt :: LG) (rmX (d + 1) mc ms)).room s mi ((av.map (cv K)).toArray) below meth c (MQ below (qcX K rt Q) ((av.map (cv K)).toArray) s mc ms (xA K)) := by
    intro x σ' m' l' ls H locs cells slots pc hq hrp hS h1 h2
    have key : ∀ t : State, t.heap = H → s.WarmedH t.vm → rep K σ' m' l' t ∧ va_F (xA K) s t := fun t ht hW => ⟨rep.of hst hrp hS ht hW, hS.F ht⟩
    rcases hr with rfl | rfl | rfl | rfl | rfl
    · intro hdg hx0
      subst hx0
      refine W.widen (k := mc) (n := ms) h1 h2 (W.vret B.exec B.bytes hr9 (fun t ht hW => ?_) hS.2.2 hdg)
      exact ⟨⟨(σ', m', l'), rfl, hq, (key t ht hW).1⟩, (key t ht hW).2⟩
    · intro hdg hnar
      refine W.widen (k := mc) (n := ms) h1 h2 (W.zret B.exec B.bytes hr9 hnar (fun t ht hW => ?_) hS.2.2 hdg)
      exact ⟨⟨x, (σ', m', l'), rfl, hq, (key t ht hW).1⟩, (key t ht hW).2⟩
    · intro hdg hnar
      refine W.widen (k := mc) (n := ms) h1 h2 (W.zret B.exec B.bytes hr9 hnar (fun t ht hW => ?_) hS.2.2 hdg)
      exact ⟨⟨x, (σ', m', l'), rfl, hq, (key t ht hW).1⟩, (key t ht hW).2⟩
    · intro hdg hnar
      refine W.widen (k := mc) (n := ms) h1 h2 (W.zret B.exec B.bytes hr9 hnar (fun t ht hW => ?_) hS.2.2 hdg)
      exact ⟨⟨x, (σ', m', l'), rfl, hq, (key t ht hW).1⟩, (key t ht hW).2⟩
    · intro hdg hnar
      refine W.widen (k := mc) (n := ms) h1 h2 (W.zret B.exec B.bytes hr9 hnar (fun t ht hW => ?_) hS.2.2 hdg)
      exact ⟨⟨x, (σ', m', l'), rfl, hq, (key t ht hW).1⟩, (key t ht hW).2⟩
  rw [lg_entry_eq]
  obtain ⟨hlr, hlen⟩ := enE_lr (K := K) hE hn
  exact WX_snd hT hC hR h _ s.heap [] 0 0 hlr (hlen.trans hml.symm) hrep va_S.rf (by show 0 + mc ≤ mc; omega) (by show 0 + ms ≤ ms; omega)
/-! what a walk's instruction asks for more, it gives more -/
theorem mon_1 {g : St → St} : mon (fun _ a G => G (g a)) := fun _ _ _ _ h q => h _ q
