/-! THE START: what the tables and the premises give of the launch -/
theorem pr_ex : ∀ i : Nat, i < 7 → Cond.exactly (Term.string "NightWells$Tape" (sIx.getD i 0)) "java/lang/String" ∈ flatC (Cond.and given_1 narrow_1) := by decide +kernel
theorem pr_co : ∀ i : Nat, i < 7 → Cond.eq (.field (Term.string "NightWells$Tape" (sIx.getD i 0)) "java/lang/String" "coder" "B") (.int 0) ∈ flatC (Cond.and given_1 narrow_1) := by decide +kernel
theorem pr_ar : ∀ i : Nat, i < 7 → Cond.arrayOf (.field (Term.string "NightWells$Tape" (sIx.getD i 0)) "java/lang/String" "value" "[B") .byte ∈ flatC (Cond.and given_1 narrow_1) := by decide +kernel
theorem pr_le : ∀ i : Nat, i < 7 → Cond.eq (.length (.field (Term.string "NightWells$Tape" (sIx.getD i 0)) "java/lang/String" "value" "[B")) (.int (Int32.ofNat (sLn.getD i 0))) ∈ flatC (Cond.and given_1 narrow_1) := by decide +kernel
theorem pr_el : ∀ i : Nat, i < 7 → ∀ j : Nat, j < sLn.getD i 0 → Cond.eq (.elem (.field (Term.string "NightWells$Tape" (sIx.getD i 0)) "java/lang/String" "value" "[B") (.int (Int32.ofNat j))) (.int ((sBy.getD i []).getD j 0)) ∈ flatC (Cond.and given_1 narrow_1) := by decide +kernel
theorem pr_ne : ∀ i : Nat, i < 7 → ∀ j : Nat, j < 7 → i ≠ j → Cond.not (Cond.eq (Term.string "NightWells$Tape" (sIx.getD i 0)) (Term.string "NightWells$Tape" (sIx.getD j 0))) ∈ flatC (Cond.and given_1 narrow_1) ∨ Cond.not (Cond.eq (Term.string "NightWells$Tape" (sIx.getD j 0)) (Term.string "NightWells$Tape" (sIx.getD i 0))) ∈ flatC (Cond.and given_1 narrow_1) := by decide +kernel
theorem pr_cs : Cond.eq (.static "java/lang/String" "COMPACT_STRINGS" "Z") (.int 1) ∈ flatC (Cond.and given_1 narrow_1) := by decide +kernel
theorem pr_fm : Cond.isRef (.static "jdk/internal/util/Preconditions" "SIOOBE_FORMATTER" "Ljava/util/function/BiFunction;") ∈ flatC (Cond.and given_1 narrow_1) := by decide +kernel
theorem pr_ln : ∀ i : Nat, i < 7 → sLn.getD i 0 < 2 ^ 31 := by decide +kernel
theorem pr_sr : ∀ i : Nat, i < 7 → Cond.stringRef "NightWells$Tape" (sIx.getD i 0) (sTx.getD i "") ∈ lw_tbl := fun i hi => by
  match i, hi with
  | 0, _ => exact List.mem_of_getElem? (i := 308) (by decide +kernel)
  | 1, _ => exact List.mem_of_getElem? (i := 399) (by decide +kernel)
  | 2, _ => exact List.mem_of_getElem? (i := 408) (by decide +kernel)
  | 3, _ => exact List.mem_of_getElem? (i := 409) (by decide +kernel)
  | 4, _ => exact List.mem_of_getElem? (i := 410) (by decide +kernel)
  | 5, _ => exact List.mem_of_getElem? (i := 411) (by decide +kernel)
  | 6, _ => exact List.mem_of_getElem? (i := 412) (by decide +kernel)
  | k + 7, hi => omega
theorem st_0 {s : State} {b L : Nat} {xs : Nat → Int32} (l : Launch) (hts : ∀ w ∈ lw_tbl, w.before #[Value.ref b] s = true) (hX : va_X b L xs s s.heap) (hbl : b < s.heap.size) (hgv : (Jvm.Cond.and given_1 narrow_1).before #[Value.ref b] s = true) :
    ∃ (D : va_G) (adK adV : Nat → Nat) (fm : Option Nat), stC (l, s.heap.size, D, adK, adV, fm, b, L, xs) s := by
  have hs := flat_of_before _ hgv
  have htL : ∀ w ∈ LG, w.before #[Value.ref b] s = true := fun w hw => hts w (List.mem_filter.mp hw).1
  have hA : ∀ a : Nat, a < s.heap.size → ¬ (fun q : Nat => s.heap.size ≤ q) a := fun a h => Nat.not_le.mpr h
  obtain ⟨c0, i0, k0⟩ := u_known (ws := LG) (C := RX0) (T := TX0) (N := 3) (n := 3) htL inGX0 (htL _ lg_182)
  obtain ⟨c1, i1, k1⟩ := u_known (ws := LG) (C := RX1) (T := TX1) (N := 11) (n := 11) htL inGX1 (htL _ lg_90)
  obtain ⟨c2, i2, k2⟩ := u_known (ws := LG) (C := RX2) (T := TX2) (N := 4) (n := 4) htL inGX2 (htL _ lg_65)
  obtain ⟨c3, i3, k3⟩ := u_known (ws := LG) (C := RX3) (T := TX3) (N := 8) (n := 8) htL inGX3 (htL _ lg_147)
  obtain ⟨c4, i4, k4⟩ := u_known (ws := LG) (C := RX4) (T := TX4) (N := 2) (n := 2) htL inGX4 (htL _ lg_201)
  obtain ⟨c5, i5, k5⟩ := u_known (ws := LG) (C := RX5) (T := TX5) (N := 10) (n := 10) htL inGX5 (htL _ lg_56)
  obtain ⟨c6, i6, k6⟩ := u_known (ws := LG) (C := RX6) (T := TX6) (N := 23) (n := 23) htL inGX6 (htL _ lg_638)
  obtain ⟨dC, dI, hKc⟩ : ∃ (dC : Nat → ClassId) (dI : Nat → Nat → Nat), ∀ (k : Nat) (q : vw_C), vwCl[k]? = some q → u_Kn s q.1 q.2.1 q.2.2 (dC k) (dI k) := by
    refine ⟨fun k => match k with | 0 => c0 | 1 => c1 | 2 => c2 | 3 => c3 | 4 => c4 | 5 => c5 | _ => c6, fun k => match k with | 0 => i0 | 1 => i1 | 2 => i2 | 3 => i3 | 4 => i4 | 5 => i5 | _ => i6, ?_⟩
    intro k q hq
    match k, hq with
    | 0, hq => cases hq; exact k0
    | 1, hq => cases hq; exact k1
    | 2, hq => cases hq; exact k2
    | 3, hq => cases hq; exact k3
    | 4, hq => cases hq; exact k4
    | 5, hq => cases hq; exact k5
    | 6, hq => cases hq; exact k6
    | k + 7, hq => simp [vwCl] at hq
  obtain ⟨adK, adV, hSt, hEv⟩ := vk_Sof (args := #[Value.ref b]) (s := s) (N := 7) (tm := fun i => Term.string "NightWells$Tape" (sIx.getD i 0)) (len := sLn) (byt := sBy) (A := fun q : Nat => s.heap.size ≤ q) pr_ln (fun i hi => hs _ (pr_ex i hi)) (fun i hi => hs _ (pr_co i hi)) (fun i hi => hs _ (pr_ar i hi)) (fun i hi => hs _ (pr_le i hi)) (fun i hi j hj => hs _ (pr_el i hi j hj)) (fun i j hi hj hij => (pr_ne i hi j hj hij).imp (fun h => hs _ h) (fun h => hs _ h)) hA
  have z1 : va_Z "java/lang/String" "COMPACT_STRINGS" "Z" (.int 1) (fun q : Nat => s.heap.size ≤ q) s s.heap := va_Zof (hts _ (List.mem_of_getElem? (i := 340) (by decide +kernel))) (hts _ (List.mem_of_getElem? (i := 49) (by decide +kernel))) (va_eqt (hs _ pr_cs)) hA
  have z2 := va_Zqof (A := fun q : Nat => s.heap.size ≤ q) (hts _ (List.mem_of_getElem? (i := 356) (by decide +kernel))) (hts _ (List.mem_of_getElem? (i := 51) (by decide +kernel))) (hs _ pr_fm) hA
  obtain ⟨fm, z3⟩ : ∃ fm : Option Nat, va_Z "jdk/internal/util/Preconditions" "SIOOBE_FORMATTER" "Ljava/util/function/BiFunction;" (fV fm) (fun q : Nat => s.heap.size ≤ q) s s.heap := by
    rcases z2 with h | ⟨t, h⟩
    · exact ⟨none, h⟩
    · exact ⟨some t, h⟩
  have hK : va_K (dC, dI) vwCl [] s := ⟨hKc, fun k q h => by simp at h⟩
  have hR : ∀ i, i < 7 → vk_R "NightWells$Tape" (sIx.getD i 0) (sTx.getD i "") (adK i) s := fun i hi => vk_R.of (hts _ (pr_sr i hi)) (hEv i hi)
  have n0 := va_Nw.of (w := .methodLinkNest "NightWells" 15 ⟨"NightWells$Row", "<init>", "()V"⟩ "NightWells") rfl (hts _ (List.mem_of_getElem? (i := 66) (by decide +kernel)))
  have n1 := va_Nw.of (w := .methodLinkNest "NightWells" 22 ⟨"NightWells$Plain", "<init>", "()V"⟩ "NightWells") rfl (hts _ (List.mem_of_getElem? (i := 91) (by decide +kernel)))
  have n2 := va_Nw.of (w := .methodLinkNest "NightWells" 25 ⟨"NightWells$Tape", "<init>", "()V"⟩ "NightWells") rfl (hts _ (List.mem_of_getElem? (i := 148) (by decide +kernel)))
  have n3 := va_Nw.of (w := .methodLinkNest "NightWells$Acts" 17 ⟨"NightWells$Plain", "<init>", "()V"⟩ "NightWells") rfl (hts _ (List.mem_of_getElem? (i := 188) (by decide +kernel)))
  have n4 := va_Nw.of (w := .methodLinkNest "NightWells" 49 ⟨"NightWells$Trace", "<init>", "()V"⟩ "NightWells") rfl (hts _ (List.mem_of_getElem? (i := 202) (by decide +kernel)))
  have o1 : va_AO "NightWells$Row" s := va_AO.of (hts _ (List.mem_of_getElem? (i := 64) (by decide +kernel)))
  have o2 : va_AO "NightWells$Plain" s := va_AO.of (hts _ (List.mem_of_getElem? (i := 89) (by decide +kernel)))
  exact ⟨(dC, dI), adK, adV, fm, hK, hSt, hR, z1, z3, ⟨n0, n1, n2, n3, n4⟩, ⟨o1, o2⟩, ⟨hX, hbl, hbl⟩, Nat.le_refl _⟩
theorem whole_start {p : Program} {e : Env} {s : State} {m : MethodId} {below : List Frame} {meth : Method} {c : Code} (l : Launch) (hflags : l.flags = flags0) {b L : Nat} {xs : Nat → Int32} (hL : L ≤ 3072) (C0 : lw_At p s m meth c b L xs) : W p l e room_1 s m #[Value.ref b] below meth c s.heap [] 0 0 (lw_Z below #[Value.ref b] s) (entryFrame m ([Value.ref b] : List Value).toArray 4) := by
  obtain ⟨hx, hb, hr, hml, hown, hts, hX, hbl, hlocks, hgv⟩ := C0
  obtain ⟨D, adK, adV, fm, hst⟩ := st_0 l hts hX hbl hgv
  have hC : cxt (l, s.heap.size, D, adK, adV, fm, b, L, xs) 12 cL_law RL false p l room_1 s m #[Value.ref b] meth c :=
    ⟨hx, hb, hown, fun w hw => hts w (List.mem_filter.mp hw).1, hst, ⟨Nat.le_of_ble_eq_true rfl, Nat.le_of_ble_eq_true rfl⟩, rfl, fun h => by cases h⟩
  have hR : rtn (l, s.heap.size, D, adK, adV, fm, b, L, xs) cL_law (some .boolean) lwQ p l e room_1 s m #[Value.ref b] below meth c (lw_Z below #[Value.ref b] s) := by
    intro x σ mm ll ls H locs cells slots pc hq hrp hS h1 h2 hdg hnar
    have e1 : x = 1 := hq
    subst e1
    refine va_forget (fun q hq => hS.2.2 q hq) ?_
    refine W.widen (k := 600000) (n := 7302250) h1 h2 ?_
    exact lw_ret hx hb hr hlocks hdg
  rw [lg_entry_eq]
  obtain ⟨hlr, hlen⟩ := enE_lr (K := (l, s.heap.size, D, adK, adV, fm, b, L, xs)) (av := [.retAddr 2000]) (n := 4) (E := [.retAddr 2000, .float 0, .float 0, .float 0]) rfl (by decide)
  have hrp : rpH (l, s.heap.size, D, adK, adV, fm, b, L, xs) sg0 zM zL s s.heap := ⟨rfl, fun a ha => absurd ha (Nat.not_lt_zero _)⟩
  exact WX_snd (sL_law (l, s.heap.size, D, adK, adV, fm, b, L, xs) 12) hC hR (law_start hL) _ s.heap [] 0 0 hlr (hlen.trans hml.symm) hrp va_S.rf (Nat.le_of_ble_eq_true rfl) (Nat.le_of_ble_eq_true rfl)
