/-! an instruction that wants more of what follows gives no more: written by a program (gen/methods.py) -/
section MON
theorem mon_iPush {n : Nat} {v : Value} : mon (iPush n v) := by
  intro Q a R R' h q
  unfold iPush at q ⊢
  exact h _ q
theorem mon_iGoto {t : Nat} : mon (iGoto t) := by
  intro Q a R R' h q
  unfold iGoto at q ⊢
  exact h _ q
theorem mon_iLdI {n k : Nat} : mon (iLdI n k) := by
  intro Q a R R' h q
  unfold iLdI at q ⊢
  split at q
  · next x hx => (try simp only [hx]); exact h _ q
  · exact q.elim
theorem mon_iLdL {n k : Nat} : mon (iLdL n k) := by
  intro Q a R R' h q
  unfold iLdL at q ⊢
  split at q
  · next x hx => (try simp only [hx]); exact h _ q
  · exact q.elim
theorem mon_iLdA {n k : Nat} : mon (iLdA n k) := by
  intro Q a R R' h q
  unfold iLdA at q ⊢
  split at q
  · next x hx => (try simp only [hx]); exact ⟨q.1, h _ q.2⟩
  · exact q.elim
theorem mon_iStI {n k : Nat} : mon (iStI n k) := by
  intro Q a R R' h q
  unfold iStI at q ⊢
  split at q
  · next x st hx => (try simp only [hx]); exact ⟨q.1, h _ q.2⟩
  · exact q.elim
theorem mon_iStL {n k : Nat} : mon (iStL n k) := by
  intro Q a R R' h q
  unfold iStL at q ⊢
  split at q
  · next x st hx => (try simp only [hx]); exact ⟨q.1, h _ q.2⟩
  · exact q.elim
theorem mon_iStA {n k : Nat} : mon (iStA n k) := by
  intro Q a R R' h q
  unfold iStA at q ⊢
  split at q
  · next x st hx => (try simp only [hx]); exact ⟨q.1, q.2.1, h _ q.2.2⟩
  · exact q.elim
theorem mon_iInc {k : Nat} {z : Int32} : mon (iInc k z) := by
  intro Q a R R' h q
  unfold iInc at q ⊢
  split at q
  · next x hx => (try simp only [hx]); exact h _ q
  · exact q.elim
theorem mon_iB {f : Int32 → Int32 → Int32} : mon (iB f) := by
  intro Q a R R' h q
  unfold iB at q ⊢
  split at q
  · next y x st hx => (try simp only [hx]); exact h _ q
  · exact q.elim
theorem mon_iBz {f : Int32 → Int32 → Int32} : mon (iBz f) := by
  intro Q a R R' h q
  unfold iBz at q ⊢
  split at q
  · next y x st hx => (try simp only [hx]); exact ⟨q.1, h _ q.2⟩
  · exact q.elim
theorem mon_iU {f : Int32 → Int32} : mon (iU f) := by
  intro Q a R R' h q
  unfold iU at q ⊢
  split at q
  · next x st hx => (try simp only [hx]); exact h _ q
  · exact q.elim
theorem mon_lB {f : Int64 → Int64 → Int64} : mon (lB f) := by
  intro Q a R R' h q
  unfold lB at q ⊢
  split at q
  · next y x st hx => (try simp only [hx]); exact h _ q
  · exact q.elim
theorem mon_lBz {f : Int64 → Int64 → Int64} : mon (lBz f) := by
  intro Q a R R' h q
  unfold lBz at q ⊢
  split at q
  · next y x st hx => (try simp only [hx]); exact ⟨q.1, h _ q.2⟩
  · exact q.elim
theorem mon_lS {f : Int64 → Int32 → Int64} : mon (lS f) := by
  intro Q a R R' h q
  unfold lS at q ⊢
  split at q
  · next y x st hx => (try simp only [hx]); exact h _ q
  · exact q.elim
theorem mon_iI2L : mon (iI2L) := by
  intro Q a R R' h q
  unfold iI2L at q ⊢
  split at q
  · next x st hx => (try simp only [hx]); exact h _ q
  · exact q.elim
theorem mon_iL2I : mon (iL2I) := by
  intro Q a R R' h q
  unfold iL2I at q ⊢
  split at q
  · next x st hx => (try simp only [hx]); exact h _ q
  · exact q.elim
theorem mon_iLcmp : mon (iLcmp) := by
  intro Q a R R' h q
  unfold iLcmp at q ⊢
  split at q
  · next y x st hx => (try simp only [hx]); exact h _ q
  · exact q.elim
theorem mon_iIf {f : Int32 → Prop} {t : Nat} : mon (iIf f t) := by
  intro Q a R R' h q
  unfold iIf at q ⊢
  split at q
  · next x st hx => (try simp only [hx]); exact ⟨fun z => h _ (q.1 z), fun z => h _ (q.2 z)⟩
  · exact q.elim
theorem mon_iIfN {f : Int32 → Prop} {t : Nat} : mon (iIfN f t) := by
  intro Q a R R' h q
  unfold iIfN at q ⊢
  split at q
  · next x st hx => (try simp only [hx]); exact ⟨fun z => h _ (q.1 z), fun z => h _ (q.2 z)⟩
  · exact q.elim
theorem mon_iCm {f : Int32 → Int32 → Prop} {t : Nat} : mon (iCm f t) := by
  intro Q a R R' h q
  unfold iCm at q ⊢
  split at q
  · next y x st hx => (try simp only [hx]); exact ⟨fun z => h _ (q.1 z), fun z => h _ (q.2 z)⟩
  · exact q.elim
theorem mon_iCmN {f : Int32 → Int32 → Prop} {t : Nat} : mon (iCmN f t) := by
  intro Q a R R' h q
  unfold iCmN at q ⊢
  split at q
  · next y x st hx => (try simp only [hx]); exact ⟨fun z => h _ (q.1 z), fun z => h _ (q.2 z)⟩
  · exact q.elim
theorem swG_mono {x : Int32} {G G' : Nat → Prop} {dt : Nat} (h : ∀ t, G t → G' t) : ∀ {tb : List (Int32 × Nat)}, swG x G dt tb → swG x G' dt tb
  | [], q => h _ q
  | (k, t) :: r, q => ⟨fun z => h _ (q.1 z), fun z => swG_mono h (q.2 z)⟩
theorem mon_iSw {tb : List (Int32 × Nat)} {dt : Nat} : mon (iSw tb dt) := by
  intro Q a R R' h q
  unfold iSw at q ⊢
  split at q
  · next x st hx => (try simp only [hx]); exact swG_mono (fun _ z => h _ z) q
  · exact q.elim
theorem mon_iDup : mon (iDup) := by
  intro Q a R R' h q
  unfold iDup at q ⊢
  split at q
  · next v st hx => (try simp only [hx]); exact ⟨q.1, h _ q.2⟩
  · exact q.elim
theorem mon_iDup2 : mon (iDup2) := by
  intro Q a R R' h q
  unfold iDup2 at q ⊢
  split at q
  · next v w st hx => (try simp only [hx]); exact ⟨q.1, q.2.1, h _ q.2.2⟩
  · exact q.elim
theorem mon_iPop : mon (iPop) := by
  intro Q a R R' h q
  unfold iPop at q ⊢
  split at q
  · next v st hx => (try simp only [hx]); exact ⟨q.1, h _ q.2⟩
  · exact q.elim
theorem mon_iRet {ty : FieldType} : mon (iRet ty) := fun _ _ _ _ _ q => q
theorem mon_iRetV : mon iRetV := fun _ _ _ _ _ q => q
theorem mon_iGetI {c k : Nat} : mon (iGetI c k) := by
  intro Q a R R' h q
  unfold iGetI at q ⊢
  split at q
  · next o st hx => (try simp only [hx]); exact ⟨q.1, h _ q.2⟩
  · exact q.elim
theorem mon_iGetA {c k : Nat} : mon (iGetA c k) := by
  intro Q a R R' h q
  unfold iGetA at q ⊢
  split at q
  · next o st hx => (try simp only [hx]); exact ⟨q.1, h _ q.2⟩
  · exact q.elim
theorem mon_iGetL {c k : Nat} : mon (iGetL c k) := by
  intro Q a R R' h q
  unfold iGetL at q ⊢
  split at q
  · next o st hx => (try simp only [hx]); exact ⟨q.1, h _ q.2⟩
  · exact q.elim
theorem mon_iPutI {c k : Nat} : mon (iPutI c k) := by
  intro Q a R R' h q
  unfold iPutI at q ⊢
  split at q
  · next x o st hx => (try simp only [hx]); exact ⟨q.1, h _ q.2⟩
  · exact q.elim
theorem mon_iPutL {c k : Nat} : mon (iPutL c k) := by
  intro Q a R R' h q
  unfold iPutL at q ⊢
  split at q
  · next x o st hx => (try simp only [hx]); exact ⟨q.1, h _ q.2⟩
  · exact q.elim
theorem mon_iPutA {c k : Nat} : mon (iPutA c k) := by
  intro Q a R R' h q
  unfold iPutA at q ⊢
  split at q
  · next x o st hx => (try simp only [hx]); exact ⟨q.1, h _ q.2⟩
  · exact q.elim
theorem mon_iPutZ {c k : Nat} : mon (iPutZ c k) := by
  intro Q a R R' h q
  unfold iPutZ at q ⊢
  split at q
  · next x o st hx => (try simp only [hx]); exact ⟨q.1, q.2.1, h _ q.2.2⟩
  · exact q.elim
theorem mon_iALd {t : Nat} : mon (iALd t) := by
  intro Q a R R' h q
  unfold iALd at q ⊢
  split at q
  · next i o st hx => (try simp only [hx]); exact ⟨q.1, q.2.1, h _ q.2.2⟩
  · exact q.elim
theorem mon_iALdA {t : Nat} : mon (iALdA t) := by
  intro Q a R R' h q
  unfold iALdA at q ⊢
  split at q
  · next i o st hx => (try simp only [hx]); exact ⟨q.1, q.2.1, h _ q.2.2⟩
  · exact q.elim
theorem mon_iASt {t : Nat} : mon (iASt t) := by
  intro Q a R R' h q
  unfold iASt at q ⊢
  split at q
  · next x i o st hx => (try simp only [hx]); exact ⟨q.1, q.2.1, h _ q.2.2⟩
  · exact q.elim
theorem mon_iAStA {c : Nat} : mon (iAStA c) := by
  intro Q a R R' h q
  unfold iAStA at q ⊢
  split at q
  · next x i o st hx => (try simp only [hx]); exact ⟨q.1, q.2.1, q.2.2.1, h _ q.2.2.2⟩
  · exact q.elim
theorem mon_iNew {c N : Nat} : mon (iNew c N) := by
  intro Q a R R' h q
  unfold iNew at q ⊢
  exact ⟨q.1, q.2.1, h _ q.2.2⟩
theorem mon_iNewA {t : Nat} : mon (iNewA t) := by
  intro Q a R R' h q
  unfold iNewA at q ⊢
  split at q
  · next n st hx => (try simp only [hx]); exact ⟨q.1, q.2.1, q.2.2.1, q.2.2.2.1, h _ q.2.2.2.2⟩
  · exact q.elim
theorem mon_iNewQ {t : Nat} : mon (iNewQ t) := by
  intro Q a R R' h q
  unfold iNewQ at q ⊢
  split at q
  · next n st hx => (try simp only [hx]); exact ⟨q.1, q.2.1, q.2.2.1, q.2.2.2.1, h _ q.2.2.2.2⟩
  · exact q.elim
theorem mon_iMin : mon (iMin) := by
  intro Q a R R' h q
  unfold iMin at q ⊢
  split at q
  · next y x st hx => (try simp only [hx]); exact ⟨q.1, h _ q.2⟩
  · exact q.elim
theorem mon_iCopy : mon (iCopy) := by
  intro Q a R R' h q
  unfold iCopy at q ⊢
  split at q
  · next n dp o2 sp o st hx => (try simp only [hx]); exact ⟨q.1, q.2.1, q.2.2.1, q.2.2.2.1, q.2.2.2.2.1, q.2.2.2.2.2.1, q.2.2.2.2.2.2.1, q.2.2.2.2.2.2.2.1, h _ q.2.2.2.2.2.2.2.2⟩
  · exact q.elim
theorem mon_iObj : mon (iObj) := by
  intro Q a R R' h q
  unfold iObj at q ⊢
  split at q
  · next o st hx => (try simp only [hx]); exact ⟨q.1, h _ q.2⟩
  · exact q.elim
theorem mon_iGetSV : mon (iGetSV) := by
  intro Q a R R' h q
  unfold iGetSV at q ⊢
  split at q
  · next i st hx => (try simp only [hx]); exact ⟨q.1, h _ q.2⟩
  · exact q.elim
theorem mon_iGetSC : mon (iGetSC) := by
  intro Q a R R' h q
  unfold iGetSC at q ⊢
  split at q
  · next i st hx => (try simp only [hx]); exact ⟨q.1, h _ q.2⟩
  · exact q.elim
theorem mon_iLenS : mon (iLenS) := by
  intro Q a R R' h q
  unfold iLenS at q ⊢
  split at q
  · next j st hx => (try simp only [hx]); exact ⟨q.1, q.2.1, h _ q.2.2⟩
  · exact q.elim
theorem mon_iLdS : mon (iLdS) := by
  intro Q a R R' h q
  unfold iLdS at q ⊢
  split at q
  · next i j st hx => (try simp only [hx]); exact ⟨q.1, q.2.1, q.2.2.1, h _ q.2.2.2⟩
  · exact q.elim
theorem mon_iLenX {K : Cx} : mon (iLenX K) := by
  intro Q a R R' h q
  unfold iLenX at q ⊢
  split at q
  · next st hx => (try simp only [hx]); exact h _ q
  · exact q.elim
theorem mon_iLdX {K : Cx} : mon (iLdX K) := by
  intro Q a R R' h q
  unfold iLdX at q ⊢
  split at q
  · next i st hx => (try simp only [hx]); exact ⟨q.1, h _ q.2⟩
  · exact q.elim
theorem mon_iCV {K : Cx} {d n c : Nat} {Y : Yt} : mon (iCV K d n c Y) := by
  intro Q a R R' h q
  unfold iCV at q ⊢
  split at q
  · next o st hx => (try simp only [hx]); exact ⟨q.1, q.2.1, q.2.2.1, q.2.2.2.1, CT.mono (q.2.2.2.2) (Nat.le_refl _) (fun _ _ _ _ z => h _ z)⟩
  · exact q.elim
theorem mon_iCI {K : Cx} {d n : Nat} {Y : Yt} : mon (iCI K d n Y) := by
  intro Q a R R' h q
  unfold iCI at q ⊢
  split at q
  · next o st hx => (try simp only [hx]); exact ⟨q.1, q.2.1, q.2.2.1, CT.mono (q.2.2.2) (Nat.le_refl _) (fun _ _ _ _ z => h _ z)⟩
  · exact q.elim
theorem mon_iCVs {K : Cx} {d n : Nat} {Y : Yt} : mon (iCVs K d n Y) := by
  intro Q a R R' h q
  unfold iCVs at q ⊢
  split at q
  · next o st hx => (try simp only [hx]); exact ⟨q.1, q.2.1, q.2.2.1, q.2.2.2.1, CT.mono (q.2.2.2.2) (Nat.le_refl _) (fun _ _ _ _ z => h _ z)⟩
  · exact q.elim
theorem mon_iCS {K : Cx} {d n : Nat} {Y : Yt} : mon (iCS K d n Y) := fun _ _ _ _ h q => ⟨q.1, q.2.1, q.2.2.1, q.2.2.2.1, CT.mono (q.2.2.2.2) (Nat.le_refl _) (fun _ _ _ _ z => h _ z)⟩
end MON
