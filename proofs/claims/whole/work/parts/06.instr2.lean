/-! arithmetic, branches, stack, switches, ends: written by a program (gen/instr2.py) -/
section SND2
variable {K : Cx} {d : Nat} {code : ByteArray} {own : String} {ini : Bool} {ret : Option FieldType} {pc : Nat}
theorem snd_iadd (hdg : decode code pc = .ok (.iadd, 1)) : snd K d code own ini ret (iB (fun x y => x + y)) pc := by
  intro p l e R s m args below meth c Qf Q hC hR env st b σ mm ll G h kk ls H locs cells slots hE hn hr hS h1 h2
  unfold iB at h
  split at h
  · next y x st' hst =>
    subst hst
    exact lv_iadd hC.1 hC.2.1 hdg (kk _ h ls H locs cells slots hE hn hr hS h1 h2)
  · exact h.elim
theorem snd_isub (hdg : decode code pc = .ok (.isub, 1)) : snd K d code own ini ret (iB (fun x y => x - y)) pc := by
  intro p l e R s m args below meth c Qf Q hC hR env st b σ mm ll G h kk ls H locs cells slots hE hn hr hS h1 h2
  unfold iB at h
  split at h
  · next y x st' hst =>
    subst hst
    exact lv_isub hC.1 hC.2.1 hdg (kk _ h ls H locs cells slots hE hn hr hS h1 h2)
  · exact h.elim
theorem snd_imul (hdg : decode code pc = .ok (.imul, 1)) : snd K d code own ini ret (iB (fun x y => x * y)) pc := by
  intro p l e R s m args below meth c Qf Q hC hR env st b σ mm ll G h kk ls H locs cells slots hE hn hr hS h1 h2
  unfold iB at h
  split at h
  · next y x st' hst =>
    subst hst
    exact lv_imul hC.1 hC.2.1 hdg (kk _ h ls H locs cells slots hE hn hr hS h1 h2)
  · exact h.elim
theorem snd_iand (hdg : decode code pc = .ok (.iand, 1)) : snd K d code own ini ret (iB (fun x y => x &&& y)) pc := by
  intro p l e R s m args below meth c Qf Q hC hR env st b σ mm ll G h kk ls H locs cells slots hE hn hr hS h1 h2
  unfold iB at h
  split at h
  · next y x st' hst =>
    subst hst
    exact lv_iand hC.1 hC.2.1 hdg (kk _ h ls H locs cells slots hE hn hr hS h1 h2)
  · exact h.elim
theorem snd_ior (hdg : decode code pc = .ok (.ior, 1)) : snd K d code own ini ret (iB (fun x y => x ||| y)) pc := by
  intro p l e R s m args below meth c Qf Q hC hR env st b σ mm ll G h kk ls H locs cells slots hE hn hr hS h1 h2
  unfold iB at h
  split at h
  · next y x st' hst =>
    subst hst
    exact lv_ior hC.1 hC.2.1 hdg (kk _ h ls H locs cells slots hE hn hr hS h1 h2)
  · exact h.elim
theorem snd_ixor (hdg : decode code pc = .ok (.ixor, 1)) : snd K d code own ini ret (iB (fun x y => x ^^^ y)) pc := by
  intro p l e R s m args below meth c Qf Q hC hR env st b σ mm ll G h kk ls H locs cells slots hE hn hr hS h1 h2
  unfold iB at h
  split at h
  · next y x st' hst =>
    subst hst
    exact lv_ixor hC.1 hC.2.1 hdg (kk _ h ls H locs cells slots hE hn hr hS h1 h2)
  · exact h.elim
theorem snd_ishl (hdg : decode code pc = .ok (.ishl, 1)) : snd K d code own ini ret (iB (fun x y => x <<< (y &&& 31))) pc := by
  intro p l e R s m args below meth c Qf Q hC hR env st b σ mm ll G h kk ls H locs cells slots hE hn hr hS h1 h2
  unfold iB at h
  split at h
  · next y x st' hst =>
    subst hst
    exact lv_ishl hC.1 hC.2.1 hdg (kk _ h ls H locs cells slots hE hn hr hS h1 h2)
  · exact h.elim
theorem snd_ishr (hdg : decode code pc = .ok (.ishr, 1)) : snd K d code own ini ret (iB (fun x y => x >>> (y &&& 31))) pc := by
  intro p l e R s m args below meth c Qf Q hC hR env st b σ mm ll G h kk ls H locs cells slots hE hn hr hS h1 h2
  unfold iB at h
  split at h
  · next y x st' hst =>
    subst hst
    exact lv_ishr hC.1 hC.2.1 hdg (kk _ h ls H locs cells slots hE hn hr hS h1 h2)
  · exact h.elim
theorem snd_iushr (hdg : decode code pc = .ok (.iushr, 1)) : snd K d code own ini ret (iB (fun x y => (x.toUInt32 >>> (y.toUInt32 &&& Int32.toUInt32 31)).toInt32)) pc := by
  intro p l e R s m args below meth c Qf Q hC hR env st b σ mm ll G h kk ls H locs cells slots hE hn hr hS h1 h2
  unfold iB at h
  split at h
  · next y x st' hst =>
    subst hst
    exact lv_iushr hC.1 hC.2.1 hdg rfl (kk _ h ls H locs cells slots hE hn hr hS h1 h2)
  · exact h.elim
theorem snd_idiv (hdg : decode code pc = .ok (.idiv, 1)) : snd K d code own ini ret (iBz (fun x y => x / y)) pc := by
  intro p l e R s m args below meth c Qf Q hC hR env st b σ mm ll G h kk ls H locs cells slots hE hn hr hS h1 h2
  unfold iBz at h
  split at h
  · next y x st' hst =>
    subst hst
    obtain ⟨hne, h⟩ := h
    exact lv_idiv hC.1 hC.2.1 hdg hne (kk _ h ls H locs cells slots hE hn hr hS h1 h2)
  · exact h.elim
theorem snd_ineg (hdg : decode code pc = .ok (.ineg, 1)) : snd K d code own ini ret (iU (fun x => -x)) pc := by
  intro p l e R s m args below meth c Qf Q hC hR env st b σ mm ll G h kk ls H locs cells slots hE hn hr hS h1 h2
  unfold iU at h
  split at h
  · next x st' hst =>
    subst hst
    exact lv_ineg hC.1 hC.2.1 hdg (kk _ h ls H locs cells slots hE hn hr hS h1 h2)
  · exact h.elim
theorem snd_i2b (hdg : decode code pc = .ok (.i2b, 1)) : snd K d code own ini ret (iU (fun x => x.toInt8.toInt32)) pc := by
  intro p l e R s m args below meth c Qf Q hC hR env st b σ mm ll G h kk ls H locs cells slots hE hn hr hS h1 h2
  unfold iU at h
  split at h
  · next x st' hst =>
    subst hst
    exact lv_i2b hC.1 hC.2.1 hdg rfl (kk _ h ls H locs cells slots hE hn hr hS h1 h2)
  · exact h.elim
theorem snd_i2s (hdg : decode code pc = .ok (.i2s, 1)) : snd K d code own ini ret (iU (fun x => x.toInt16.toInt32)) pc := by
  intro p l e R s m args below meth c Qf Q hC hR env st b σ mm ll G h kk ls H locs cells slots hE hn hr hS h1 h2
  unfold iU at h
  split at h
  · next x st' hst =>
    subst hst
    exact lv_i2s hC.1 hC.2.1 hdg rfl (kk _ h ls H locs cells slots hE hn hr hS h1 h2)
  · exact h.elim
theorem snd_i2c (hdg : decode code pc = .ok (.i2c, 1)) : snd K d code own ini ret (iU (fun x => (x.toUInt32 % 65536).toInt32)) pc := by
  intro p l e R s m args below meth c Qf Q hC hR env st b σ mm ll G h kk ls H locs cells slots hE hn hr hS h1 h2
  unfold iU at h
  split at h
  · next x st' hst =>
    subst hst
    exact lv_i2c hC.1 hC.2.1 hdg rfl (kk _ h ls H locs cells slots hE hn hr hS h1 h2)
  · exact h.elim
theorem snd_ladd (hdg : decode code pc = .ok (.ladd, 1)) : snd K d code own ini ret (lB (fun x y => x + y)) pc := by
  intro p l e R s m args below meth c Qf Q hC hR env st b σ mm ll G h kk ls H locs cells slots hE hn hr hS h1 h2
  unfold lB at h
  split at h
  · next y x st' hst =>
    subst hst
    exact lv_ladd hC.1 hC.2.1 hdg (kk _ h ls H locs cells slots hE hn hr hS h1 h2)
  · exact h.elim
theorem snd_lsub (hdg : decode code pc = .ok (.lsub, 1)) : snd K d code own ini ret (lB (fun x y => x - y)) pc := by
  intro p l e R s m args below meth c Qf Q hC hR env st b σ mm ll G h kk ls H locs cells slots hE hn hr hS h1 h2
  unfold lB at h
  split at h
  · next y x st' hst =>
    subst hst
    exact lv_lsub hC.1 hC.2.1 hdg (kk _ h ls H locs cells slots hE hn hr hS h1 h2)
  · exact h.elim
theorem snd_lmul (hdg : decode code pc = .ok (.lmul, 1)) : snd K d code own ini ret (lB (fun x y => x * y)) pc := by
  intro p l e R s m args below meth c Qf Q hC hR env st b σ mm ll G h kk ls H locs cells slots hE hn hr hS h1 h2
  unfold lB at h
  split at h
  · next y x st' hst =>
    subst hst
    exact lv_lmul hC.1 hC.2.1 hdg (kk _ h ls H locs cells slots hE hn hr hS h1 h2)
  · exact h.elim
theorem snd_land (hdg : decode code pc = .ok (.land, 1)) : snd K d code own ini ret (lB (fun x y => x &&& y)) pc := by
  intro p l e R s m args below meth c Qf Q hC hR env st b σ mm ll G h kk ls H locs cells slots hE hn hr hS h1 h2
  unfold lB at h
  split at h
  · next y x st' hst =>
    subst hst
    exact lv_land hC.1 hC.2.1 hdg (kk _ h ls H locs cells slots hE hn hr hS h1 h2)
  · exact h.elim
theorem snd_lor (hdg : decode code pc = .ok (.lor, 1)) : snd K d code own ini ret (lB (fun x y => x ||| y)) pc := by
  intro p l e R s m args below meth c Qf Q hC hR env st b σ mm ll G h kk ls H locs cells slots hE hn hr hS h1 h2
  unfold lB at h
  split at h
  · next y x st' hst =>
    subst hst
    exact lv_lor hC.1 hC.2.1 hdg (kk _ h ls H locs cells slots hE hn hr hS h1 h2)
  · exact h.elim
theorem snd_ldiv (hdg : decode code pc = .ok (.ldiv, 1)) : snd K d code own ini ret (lBz (fun x y => x / y)) pc := by
  intro p l e R s m args below meth c Qf Q hC hR env st b σ mm ll G h kk ls H locs cells slots hE hn hr hS h1 h2
  unfold lBz at h
  split at h
  · next y x st' hst =>
    subst hst
    obtain ⟨hne, h⟩ := h
    exact lv_ldiv hC.1 hC.2.1 hdg hne (kk _ h ls H locs cells slots hE hn hr hS h1 h2)
  · exact h.elim
theorem snd_lrem (hdg : decode code pc = .ok (.lrem, 1)) : snd K d code own ini ret (lBz (fun x y => x - x / y * y)) pc := by
  intro p l e R s m args below meth c Qf Q hC hR env st b σ mm ll G h kk ls H locs cells slots hE hn hr hS h1 h2
  unfold lBz at h
  split at h
  · next y x st' hst =>
    subst hst
    obtain ⟨hne, h⟩ := h
    exact lv_lrem hC.1 hC.2.1 hdg hne (kk _ h ls H locs cells slots hE hn hr hS h1 h2)
  · exact h.elim
theorem snd_lshl (hdg : decode code pc = .ok (.lshl, 1)) : snd K d code own ini ret (lS (fun x y => x <<< (y.toInt64 &&& 63))) pc := by
  intro p l e R s m args below meth c Qf Q hC hR env st b σ mm ll G h kk ls H locs cells slots hE hn hr hS h1 h2
  unfold lS at h
  split at h
  · next y x st' hst =>
    subst hst
    exact lv_lshl hC.1 hC.2.1 hdg rfl (kk _ h ls H locs cells slots hE hn hr hS h1 h2)
  · exact h.elim
theorem snd_lshr (hdg : decode code pc = .ok (.lshr, 1)) : snd K d code own ini ret (lS (fun x y => x >>> (y.toInt64 &&& 63))) pc := by
  intro p l e R s m args below meth c Qf Q hC hR env st b σ mm ll G h kk ls H locs cells slots hE hn hr hS h1 h2
  unfold lS at h
  split at h
  · next y x st' hst =>
    subst hst
    exact lv_lshr hC.1 hC.2.1 hdg rfl (kk _ h ls H locs cells slots hE hn hr hS h1 h2)
  · exact h.elim
theorem snd_i2l (hdg : decode code pc = .ok (.i2l, 1)) : snd K d code own ini ret (iI2L) pc := by
  intro p l e R s m args below meth c Qf Q hC hR env st b σ mm ll G h kk ls H locs cells slots hE hn hr hS h1 h2
  unfold iI2L at h
  split at h
  · next x st' hst =>
    subst hst
    exact lv_i2l hC.1 hC.2.1 hdg rfl (kk _ h ls H locs cells slots hE hn hr hS h1 h2)
  · exact h.elim
theorem snd_l2i (hdg : decode code pc = .ok (.l2i, 1)) : snd K d code own ini ret (iL2I) pc := by
  intro p l e R s m args below meth c Qf Q hC hR env st b σ mm ll G h kk ls H locs cells slots hE hn hr hS h1 h2
  unfold iL2I at h
  split at h
  · next x st' hst =>
    subst hst
    exact lv_l2i hC.1 hC.2.1 hdg rfl (kk _ h ls H locs cells slots hE hn hr hS h1 h2)
  · exact h.elim
theorem snd_lcmp (hdg : decode code pc = .ok (.lcmp, 1)) : snd K d code own ini ret (iLcmp) pc := by
  intro p l e R s m args below meth c Qf Q hC hR env st b σ mm ll G h kk ls H locs cells slots hE hn hr hS h1 h2
  unfold iLcmp at h
  split at h
  · next y x st' hst =>
    subst hst
    exact W.lcmp hC.1 hC.2.1 hdg (kk _ h ls H locs cells slots hE hn hr hS h1 h2)
  · exact h.elim
theorem snd_if_eq {off : Int} {t : Nat} (hdg : decode code pc = .ok (.ifCond .eq off, 3)) (ht : (pc : Int) + off = (t : Int)) : snd K d code own ini ret (iIf (fun x => x = 0) t) pc := by
  intro p l e R s m args below meth c Qf Q hC hR env st b σ mm ll G h kk ls H locs cells slots hE hn hr hS h1 h2
  unfold iIf at h
  split at h
  · next x st' hst =>
    subst hst
    exact lv_if_eq hC.1 hC.2.1 hdg ht (fun q => kk _ (h.1 q) ls H locs cells slots hE hn hr hS h1 h2) (fun q => kk _ (h.2 q) ls H locs cells slots hE hn hr hS h1 h2)
  · exact h.elim
theorem snd_if_ne {off : Int} {t : Nat} (hdg : decode code pc = .ok (.ifCond .ne off, 3)) (ht : (pc : Int) + off = (t : Int)) : snd K d code own ini ret (iIfN (fun x => x = 0) t) pc := by
  intro p l e R s m args below meth c Qf Q hC hR env st b σ mm ll G h kk ls H locs cells slots hE hn hr hS h1 h2
  unfold iIfN at h
  split at h
  · next x st' hst =>
    subst hst
    exact lv_if_ne hC.1 hC.2.1 hdg ht (fun q => kk _ (h.2 q) ls H locs cells slots hE hn hr hS h1 h2) (fun q => kk _ (h.1 (by first | exact q | exact Classical.not_not.mp q)) ls H locs cells slots hE hn hr hS h1 h2)
  · exact h.elim
theorem snd_if_lt {off : Int} {t : Nat} (hdg : decode code pc = .ok (.ifCond .lt off, 3)) (ht : (pc : Int) + off = (t : Int)) : snd K d code own ini ret (iIf (fun x => x < 0) t) pc := by
  intro p l e R s m args below meth c Qf Q hC hR env st b σ mm ll G h kk ls H locs cells slots hE hn hr hS h1 h2
  unfold iIf at h
  split at h
  · next x st' hst =>
    subst hst
    exact lv_if_lt hC.1 hC.2.1 hdg ht (fun q => kk _ (h.1 q) ls H locs cells slots hE hn hr hS h1 h2) (fun q => kk _ (h.2 q) ls H locs cells slots hE hn hr hS h1 h2)
  · exact h.elim
theorem snd_if_ge {off : Int} {t : Nat} (hdg : decode code pc = .ok (.ifCond .ge off, 3)) (ht : (pc : Int) + off = (t : Int)) : snd K d code own ini ret (iIfN (fun x => x < 0) t) pc := by
  intro p l e R s m args below meth c Qf Q hC hR env st b σ mm ll G h kk ls H locs cells slots hE hn hr hS h1 h2
  unfold iIfN at h
  split at h
  · next x st' hst =>
    subst hst
    exact lv_if_ge hC.1 hC.2.1 hdg ht (fun q => kk _ (h.2 (k2_nlt q)) ls H locs cells slots hE hn hr hS h1 h2) (fun q => kk _ (h.1 (k2_lt q)) ls H locs cells slots hE hn hr hS h1 h2)
  · exact h.elim
theorem snd_if_gt {off : Int} {t : Nat} (hdg : decode code pc = .ok (.ifCond .gt off, 3)) (ht : (pc : Int) + off = (t : Int)) : snd K d code own ini ret (iIf (fun x => 0 < x) t) pc := by
  intro p l e R s m args below meth c Qf Q hC hR env st b σ mm ll G h kk ls H locs cells slots hE hn hr hS h1 h2
  unfold iIf at h
  split at h
  · next x st' hst =>
    subst hst
    exact lv_if_gt hC.1 hC.2.1 hdg ht (fun q => kk _ (h.1 q) ls H locs cells slots hE hn hr hS h1 h2) (fun q => kk _ (h.2 q) ls H locs cells slots hE hn hr hS h1 h2)
  · exact h.elim
theorem snd_if_le {off : Int} {t : Nat} (hdg : decode code pc = .ok (.ifCond .le off, 3)) (ht : (pc : Int) + off = (t : Int)) : snd K d code own ini ret (iIfN (fun x => 0 < x) t) pc := by
  intro p l e R s m args below meth c Qf Q hC hR env st b σ mm ll G h kk ls H locs cells slots hE hn hr hS h1 h2
  unfold iIfN at h
  split at h
  · next x st' hst =>
    subst hst
    exact lv_if_le hC.1 hC.2.1 hdg ht (fun q => kk _ (h.2 (k2_nlt q)) ls H locs cells slots hE hn hr hS h1 h2) (fun q => kk _ (h.1 (k2_lt q)) ls H locs cells slots hE hn hr hS h1 h2)
  · exact h.elim
theorem snd_cm_eq {off : Int} {t : Nat} (hdg : decode code pc = .ok (.if_icmp .eq off, 3)) (ht : (pc : Int) + off = (t : Int)) : snd K d code own ini ret (iCm (fun x y => x = y) t) pc := by
  intro p l e R s m args below meth c Qf Q hC hR env st b σ mm ll G h kk ls H locs cells slots hE hn hr hS h1 h2
  unfold iCm at h
  split at h
  · next y x st' hst =>
    subst hst
    exact lv_icmp_eq hC.1 hC.2.1 hdg ht (fun q => kk _ (h.1 q) ls H locs cells slots hE hn hr hS h1 h2) (fun q => kk _ (h.2 q) ls H locs cells slots hE hn hr hS h1 h2)
  · exact h.elim
theorem snd_cm_ne {off : Int} {t : Nat} (hdg : decode code pc = .ok (.if_icmp .ne off, 3)) (ht : (pc : Int) + off = (t : Int)) : snd K d code own ini ret (iCmN (fun x y => x = y) t) pc := by
  intro p l e R s m args below meth c Qf Q hC hR env st b σ mm ll G h kk ls H locs cells slots hE hn hr hS h1 h2
  unfold iCmN at h
  split at h
  · next y x st' hst =>
    subst hst
    exact lv_icmp_ne hC.1 hC.2.1 hdg ht (fun q => kk _ (h.2 q) ls H locs cells slots hE hn hr hS h1 h2) (fun q => kk _ (h.1 (by first | exact q | exact Classical.not_not.mp q)) ls H locs cells slots hE hn hr hS h1 h2)
  · exact h.elim
theorem snd_cm_lt {off : Int} {t : Nat} (hdg : decode code pc = .ok (.if_icmp .lt off, 3)) (ht : (pc : Int) + off = (t : Int)) : snd K d code own ini ret (iCm (fun x y => x < y) t) pc := by
  intro p l e R s m args below meth c Qf Q hC hR env st b σ mm ll G h kk ls H locs cells slots hE hn hr hS h1 h2
  unfold iCm at h
  split at h
  · next y x st' hst =>
    subst hst
    exact lv_icmp_lt hC.1 hC.2.1 hdg ht (fun q => kk _ (h.1 q) ls H locs cells slots hE hn hr hS h1 h2) (fun q => kk _ (h.2 q) ls H locs cells slots hE hn hr hS h1 h2)
  · exact h.elim
theorem snd_cm_ge {off : Int} {t : Nat} (hdg : decode code pc = .ok (.if_icmp .ge off, 3)) (ht : (pc : Int) + off = (t : Int)) : snd K d code own ini ret (iCmN (fun x y => x < y) t) pc := by
  intro p l e R s m args below meth c Qf Q hC hR env st b σ mm ll G h kk ls H locs cells slots hE hn hr hS h1 h2
  unfold iCmN at h
  split at h
  · next y x st' hst =>
    subst hst
    exact lv_icmp_ge hC.1 hC.2.1 hdg ht (fun q => kk _ (h.2 (k2_nlt q)) ls H locs cells slots hE hn hr hS h1 h2) (fun q => kk _ (h.1 (k2_lt q)) ls H locs cells slots hE hn hr hS h1 h2)
  · exact h.elim
theorem snd_cm_gt {off : Int} {t : Nat} (hdg : decode code pc = .ok (.if_icmp .gt off, 3)) (ht : (pc : Int) + off = (t : Int)) : snd K d code own ini ret (iCm (fun x y => y < x) t) pc := by
  intro p l e R s m args below meth c Qf Q hC hR env st b σ mm ll G h kk ls H locs cells slots hE hn hr hS h1 h2
  unfold iCm at h
  split at h
  · next y x st' hst =>
    subst hst
    exact lv_icmp_gt hC.1 hC.2.1 hdg ht (fun q => kk _ (h.1 q) ls H locs cells slots hE hn hr hS h1 h2) (fun q => kk _ (h.2 q) ls H locs cells slots hE hn hr hS h1 h2)
  · exact h.elim
theorem snd_cm_le {off : Int} {t : Nat} (hdg : decode code pc = .ok (.if_icmp .le off, 3)) (ht : (pc : Int) + off = (t : Int)) : snd K d code own ini ret (iCmN (fun x y => y < x) t) pc := by
  intro p l e R s m args below meth c Qf Q hC hR env st b σ mm ll G h kk ls H locs cells slots hE hn hr hS h1 h2
  unfold iCmN at h
  split at h
  · next y x st' hst =>
    subst hst
    exact lv_icmp_le hC.1 hC.2.1 hdg ht (fun q => kk _ (h.2 (k2_nlt q)) ls H locs cells slots hE hn hr hS h1 h2) (fun q => kk _ (h.1 (k2_lt q)) ls H locs cells slots hE hn hr hS h1 h2)
  · exact h.elim
theorem snd_dup (hdg : decode code pc = .ok (.dup, 1)) : snd K d code own ini ret (iDup) pc := by
  intro p l e R s m args below meth c Qf Q hC hR env st b σ mm ll G h kk ls H locs cells slots hE hn hr hS h1 h2
  unfold iDup at h
  split at h
  · next v st' hst =>
    subst hst
    obtain ⟨hv, h⟩ := h
    exact lv_dup hC.1 hC.2.1 hdg ((cv_cat K v).trans hv) (kk _ h ls H locs cells slots hE hn hr hS h1 h2)
  · exact h.elim
theorem snd_dup2 (hdg : decode code pc = .ok (.dup2, 1)) : snd K d code own ini ret (iDup2) pc := by
  intro p l e R s m args below meth c Qf Q hC hR env st b σ mm ll G h kk ls H locs cells slots hE hn hr hS h1 h2
  unfold iDup2 at h
  split at h
  · next v w st' hst =>
    subst hst
    obtain ⟨hv, hw, h⟩ := h
    exact lv_dup2_11 hC.1 hC.2.1 hdg ((cv_cat K v).trans hv) ((cv_cat K w).trans hw) (kk _ h ls H locs cells slots hE hn hr hS h1 h2)
  · exact h.elim
theorem snd_pop (hdg : decode code pc = .ok (.pop, 1)) : snd K d code own ini ret (iPop) pc := by
  intro p l e R s m args below meth c Qf Q hC hR env st b σ mm ll G h kk ls H locs cells slots hE hn hr hS h1 h2
  unfold iPop at h
  split at h
  · next v st' hst =>
    subst hst
    obtain ⟨hv, h⟩ := h
    exact lv_pop hC.1 hC.2.1 hdg ((cv_cat K v).trans hv) (kk _ h ls H locs cells slots hE hn hr hS h1 h2)
  · exact h.elim
end SND2
section SND3
variable {K : Cx} {d : Nat} {code : ByteArray} {own : String} {ini : Bool} {ret : Option FieldType} {pc : Nat}
theorem swG_of {x : Int32} {G : Nat → Prop} {dt : Nat} : ∀ {tb : List (Int32 × Nat)}, swG x G dt tb → (∃ (i : Nat) (q : Int32 × Nat), tb[i]? = some q ∧ x = q.1 ∧ G q.2) ∨ ((∀ q ∈ tb, ¬ x = q.1) ∧ G dt)
  | [], h => Or.inr ⟨fun q hq => (by cases hq), h⟩
  | (k, t) :: r, h => by
    by_cases hx : x = k
    · exact Or.inl ⟨0, (k, t), rfl, hx, h.1 hx⟩
    · rcases swG_of (h.2 hx) with ⟨i, q, h1, h2, h3⟩ | ⟨h1, h2⟩
      · exact Or.inl ⟨i + 1, q, by rw [List.getElem?_cons_succ]; exact h1, h2, h3⟩
      · refine Or.inr ⟨fun q hq => ?_, h2⟩
        rcases List.mem_cons.mp hq with e | hq
        · rw [e]; exact hx
        · exact h1 q hq
/-- a table's rows are the keys lo, lo + 1 .. with their places -/
def chT (pc : Nat) (lo : Int) : List Int → List (Int32 × Nat) → Bool
  | [], [] => true
  | o :: os, (k, t) :: r => decide (k.toInt = lo) && decide ((pc : Int) + o = (t : Int)) && chT pc (lo + 1) os r
  | _, _ => false
theorem chT_get {pc : Nat} : ∀ {lo : Int} {os : List Int} {tb : List (Int32 × Nat)}, chT pc lo os tb = true → ∀ (i : Nat) (q : Int32 × Nat), tb[i]? = some q → q.1.toInt = lo + i ∧ ∃ o, os[i]? = some o ∧ (pc : Int) + o = (q.2 : Int)
  | lo, [], [], _, i, q, h => by simp at h
  | lo, o :: os, (k, t) :: r, hc, i, q, h => by
    simp only [chT, Bool.and_eq_true, decide_eq_true_eq] at hc
    cases i with
    | zero =>
      rw [List.getElem?_cons_zero] at h
      cases h
      exact ⟨by rw [hc.1.1]; simp, o, rfl, hc.1.2⟩
    | succ i =>
      rw [List.getElem?_cons_succ] at h
      obtain ⟨h1, o', h2, h3⟩ := chT_get hc.2 i q h
      refine ⟨by rw [h1]; push_cast; omega, o', by rw [List.getElem?_cons_succ]; exact h2, h3⟩
  | lo, [], _ :: _, hc, _, _, _ => by simp [chT] at hc
  | lo, _ :: _, [], hc, _, _, _ => by simp [chT] at hc
theorem chT_len {pc : Nat} : ∀ {lo : Int} {os : List Int} {tb : List (Int32 × Nat)}, chT pc lo os tb = true → tb.length = os.length
  | lo, [], [], _ => rfl
  | lo, o :: os, (k, t) :: r, hc => by
    simp only [chT, Bool.and_eq_true] at hc
    simp [chT_len hc.2]
  | lo, [], _ :: _, hc => by simp [chT] at hc
  | lo, _ :: _, [], hc => by simp [chT] at hc
theorem snd_table {dflt lo hi : Int} {offs : Array Int} {len dt : Nat} {tb : List (Int32 × Nat)} (hdg : decode code pc = .ok (.tableswitch dflt lo hi offs, len)) (hc : chT pc lo offs.toList tb = true) (hhi : hi = lo + tb.length - 1) (ht : (pc : Int) + dflt = (dt : Int)) : snd K d code own ini ret (iSw tb dt) pc := by
  intro p l e R s m args below meth c Qf Q hC hR env st b σ mm ll G h kk ls H locs cells slots hE hn hr hS h1 h2
  unfold iSw at h
  split at h
  · next x st' hst =>
    subst hst
    rcases swG_of h with ⟨i, q, g1, g2, g3⟩ | ⟨g1, g2⟩
    · obtain ⟨q1, o, q2, q3⟩ := chT_get hc i q g1
      have hl := (List.getElem?_eq_some_iff.mp g1).1
      have hx : x.toInt = lo + i := by rw [g2]; exact q1
      exact lv_tableIn hC.1 hC.2.1 hdg (by omega) (by omega) (by rw [show (x.toInt - lo).toNat = i by omega, ← Array.getElem?_toList]; exact q2) q3 (kk _ g3 ls H locs cells slots hE hn hr hS h1 h2)
    · refine lv_tableOut hC.1 hC.2.1 hdg ?_ ht (kk _ g2 ls H locs cells slots hE hn hr hS h1 h2)
      by_cases hz : x.toInt < lo ∨ hi < x.toInt
      · exact hz
      · have hi1 : (x.toInt - lo).toNat < tb.length := by omega
        obtain ⟨q1, -⟩ := chT_get hc _ _ (List.getElem?_eq_getElem hi1)
        exact absurd (Int32.toInt_inj.mp (by rw [q1]; omega)) (g1 _ (List.getElem_mem hi1))
  · exact h.elim
theorem snd_look2 {o0 o1 dflt : Int} {len t0 t1 dt : Nat} (hdg : decode code pc = .ok (.lookupswitch dflt #[(0, o0), (1, o1)], len)) (e0 : (pc : Int) + o0 = (t0 : Int)) (e1 : (pc : Int) + o1 = (t1 : Int)) (ht : (pc : Int) + dflt = (dt : Int)) : snd K d code own ini ret (iSw [(0, t0), (1, t1)] dt) pc := by
  intro p l e R s m args below meth c Qf Q hC hR env st b σ mm ll G h kk ls H locs cells slots hE hn hr hS h1 h2
  unfold iSw at h
  split at h
  · next x st' hst =>
    subst hst
    by_cases x0 : x = 0
    · subst x0
      exact lv_lookup hC.1 hC.2.1 hdg rfl (by simp only [Op.lookupswitch.offset_cons]; rfl) e0 (kk _ (h.1 rfl) ls H locs cells slots hE hn hr hS h1 h2)
    · by_cases x1 : x = 1
      · subst x1
        exact lv_lookup hC.1 hC.2.1 hdg rfl (by simp only [Op.lookupswitch.offset_cons]; rfl) e1 (kk _ ((h.2 x0).1 rfl) ls H locs cells slots hE hn hr hS h1 h2)
      · exact lv_lookup (off := dflt) hC.1 hC.2.1 hdg rfl (by show Op.lookupswitch.offset ((0, o0) :: (1, o1) :: []) dflt x.toInt = dflt; rw [lv_osw (a := 0) (k := 0) x0 rfl, lv_osw (a := 1) (k := 1) x1 rfl]; simp [Op.lookupswitch.offset_nil]) ht (kk _ ((h.2 x0).2 x1) ls H locs cells slots hE hn hr hS h1 h2)
  · exact h.elim
theorem snd_ret {ty : FieldType} (hdg : decode code pc = .ok (.ireturn, 1)) (hret : ret = some ty) : snd K d code own ini ret (iRet ty) pc := by
  intro p l e R s m args below meth c Qf Q hC hR env st b σ mm ll G h kk ls H locs cells slots hE hn hr hS h1 h2
  subst hret
  unfold iRet at h
  split at h
  · next x hst =>
    dsimp only at hst
    subst hst
    exact hR x σ mm ll ls H locs cells slots pc h.2 hr hS (by dsimp only at h1; omega) (by dsimp only at h2; omega) hdg h.1
  · exact h.elim
theorem snd_retV (hdg : decode code pc = .ok (.return_, 1)) (hret : ret = none) : snd K d code own ini ret iRetV pc := by
  intro p l e R s m args below meth c Qf Q hC hR env st b σ mm ll G h kk ls H locs cells slots hE hn hr hS h1 h2
  subst hret
  unfold iRetV at h
  split at h
  · next hst =>
    dsimp only at hst
    subst hst
    exact hR 0 σ mm ll ls H locs cells slots pc h hr hS (by dsimp only at h1; omega) (by dsimp only at h2; omega) hdg rfl
  · exact h.elim
end SND3
