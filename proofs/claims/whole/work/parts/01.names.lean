-- ===== PART A: goes FIRST, ahead of the names: the tables' words, and 'selects' of the private methods out of them =====
/-- a private method of a class that the tables say can be made, by its rows of tables_1 -/
def lw_okq (q : MethodName × Nat) : Prop := (q.1.cls ≠ "java/lang/invoke/MethodHandle" ∧ q.1.cls ≠ "java/lang/invoke/VarHandle") ∧ Cond.instantiable q.1.cls q.2 ∈ tables_1 ∧ Cond.privateMethod q.1 ∈ tables_1 ∧ Cond.instanceMethod q.1 ∈ tables_1
theorem lw_p0 : lw_okq (⟨"NightWells", "found", "(I)I"⟩, 10) := ⟨⟨by decide +kernel, by decide +kernel⟩, List.mem_of_getElem? (i := 16) (by decide +kernel), List.mem_of_getElem? (i := 215) (by decide +kernel), List.mem_of_getElem? (i := 216) (by decide +kernel)⟩
theorem lw_p1 : lw_okq (⟨"NightWells$Row", "inLane", "(I)I"⟩, 4) := ⟨⟨by decide +kernel, by decide +kernel⟩, List.mem_of_getElem? (i := 25) (by decide +kernel), List.mem_of_getElem? (i := 237) (by decide +kernel), List.mem_of_getElem? (i := 238) (by decide +kernel)⟩
theorem lw_p2 : lw_okq (⟨"NightWells$Tape", "readWord", "(Ljava/lang/String;)V"⟩, 8) := ⟨⟨by decide +kernel, by decide +kernel⟩, List.mem_of_getElem? (i := 107) (by decide +kernel), List.mem_of_getElem? (i := 270) (by decide +kernel), List.mem_of_getElem? (i := 271) (by decide +kernel)⟩
theorem lw_p3 : lw_okq (⟨"NightWells$Tape", "advance", "()V"⟩, 8) := ⟨⟨by decide +kernel, by decide +kernel⟩, List.mem_of_getElem? (i := 107) (by decide +kernel), List.mem_of_getElem? (i := 274) (by decide +kernel), List.mem_of_getElem? (i := 275) (by decide +kernel)⟩
theorem lw_p4 : lw_okq (⟨"NightWells$Tape", "advanceNumber", "()V"⟩, 8) := ⟨⟨by decide +kernel, by decide +kernel⟩, List.mem_of_getElem? (i := 107) (by decide +kernel), List.mem_of_getElem? (i := 284) (by decide +kernel), List.mem_of_getElem? (i := 285) (by decide +kernel)⟩
theorem lw_p5 : lw_okq (⟨"NightWells$Tape", "spells", "(Ljava/lang/String;)Z"⟩, 8) := ⟨⟨by decide +kernel, by decide +kernel⟩, List.mem_of_getElem? (i := 107) (by decide +kernel), List.mem_of_getElem? (i := 288) (by decide +kernel), List.mem_of_getElem? (i := 289) (by decide +kernel)⟩
theorem lw_p6 : lw_okq (⟨"NightWells$Tape", "blame", "(I)V"⟩, 8) := ⟨⟨by decide +kernel, by decide +kernel⟩, List.mem_of_getElem? (i := 107) (by decide +kernel), List.mem_of_getElem? (i := 340) (by decide +kernel), List.mem_of_getElem? (i := 341) (by decide +kernel)⟩
theorem lw_p7 : lw_okq (⟨"NightWells$Tape", "readNumber", "(II)I"⟩, 8) := ⟨⟨by decide +kernel, by decide +kernel⟩, List.mem_of_getElem? (i := 107) (by decide +kernel), List.mem_of_getElem? (i := 344) (by decide +kernel), List.mem_of_getElem? (i := 345) (by decide +kernel)⟩
theorem lw_p8 : lw_okq (⟨"NightWells$Tape", "readSign", "()V"⟩, 8) := ⟨⟨by decide +kernel, by decide +kernel⟩, List.mem_of_getElem? (i := 107) (by decide +kernel), List.mem_of_getElem? (i := 348) (by decide +kernel), List.mem_of_getElem? (i := 349) (by decide +kernel)⟩
theorem lw_p9 : lw_okq (⟨"NightWells$Tape", "readVillage", "(LNightWells$Plain;I)V"⟩, 8) := ⟨⟨by decide +kernel, by decide +kernel⟩, List.mem_of_getElem? (i := 107) (by decide +kernel), List.mem_of_getElem? (i := 361) (by decide +kernel), List.mem_of_getElem? (i := 362) (by decide +kernel)⟩
theorem lw_p10 : lw_okq (⟨"NightWells$Tape", "readSort", "()I"⟩, 8) := ⟨⟨by decide +kernel, by decide +kernel⟩, List.mem_of_getElem? (i := 107) (by decide +kernel), List.mem_of_getElem? (i := 365) (by decide +kernel), List.mem_of_getElem? (i := 366) (by decide +kernel)⟩
theorem lw_p11 : lw_okq (⟨"NightWells$Plain", "isWatched", "(I)Z"⟩, 11) := ⟨⟨by decide +kernel, by decide +kernel⟩, List.mem_of_getElem? (i := 50) (by decide +kernel), List.mem_of_getElem? (i := 413) (by decide +kernel), List.mem_of_getElem? (i := 414) (by decide +kernel)⟩
theorem lw_p12 : lw_okq (⟨"NightWells", "startForetelling", "()V"⟩, 10) := ⟨⟨by decide +kernel, by decide +kernel⟩, List.mem_of_getElem? (i := 16) (by decide +kernel), List.mem_of_getElem? (i := 455) (by decide +kernel), List.mem_of_getElem? (i := 456) (by decide +kernel)⟩
theorem lw_p13 : lw_okq (⟨"NightWells", "daysToRest", "()I"⟩, 10) := ⟨⟨by decide +kernel, by decide +kernel⟩, List.mem_of_getElem? (i := 16) (by decide +kernel), List.mem_of_getElem? (i := 478) (by decide +kernel), List.mem_of_getElem? (i := 479) (by decide +kernel)⟩
theorem lw_p14 : lw_okq (⟨"NightWells", "daysToReturn", "()I"⟩, 10) := ⟨⟨by decide +kernel, by decide +kernel⟩, List.mem_of_getElem? (i := 16) (by decide +kernel), List.mem_of_getElem? (i := 487) (by decide +kernel), List.mem_of_getElem? (i := 488) (by decide +kernel)⟩
theorem lw_p15 : lw_okq (⟨"NightWells", "leastGuards", "(II)I"⟩, 10) := ⟨⟨by decide +kernel, by decide +kernel⟩, List.mem_of_getElem? (i := 16) (by decide +kernel), List.mem_of_getElem? (i := 499) (by decide +kernel), List.mem_of_getElem? (i := 500) (by decide +kernel)⟩
def lw_privs_1 : List (MethodName × Nat) := [(⟨"NightWells", "found", "(I)I"⟩, 10), (⟨"NightWells$Row", "inLane", "(I)I"⟩, 4), (⟨"NightWells$Tape", "readWord", "(Ljava/lang/String;)V"⟩, 8), (⟨"NightWells$Tape", "advance", "()V"⟩, 8), (⟨"NightWells$Tape", "advanceNumber", "()V"⟩, 8), (⟨"NightWells$Tape", "spells", "(Ljava/lang/String;)Z"⟩, 8), (⟨"NightWells$Tape", "blame", "(I)V"⟩, 8), (⟨"NightWells$Tape", "readNumber", "(II)I"⟩, 8), (⟨"NightWells$Tape", "readSign", "()V"⟩, 8), (⟨"NightWells$Tape", "readVillage", "(LNightWells$Plain;I)V"⟩, 8), (⟨"NightWells$Tape", "readSort", "()I"⟩, 8), (⟨"NightWells$Plain", "isWatched", "(I)Z"⟩, 11), (⟨"NightWells", "startForetelling", "()V"⟩, 10), (⟨"NightWells", "daysToRest", "()I"⟩, 10), (⟨"NightWells", "daysToReturn", "()I"⟩, 10), (⟨"NightWells", "leastGuards", "(II)I"⟩, 10)]
theorem lw_r1 : ∀ q ∈ lw_privs_1, lw_okq q := List.forall_mem_cons.mpr ⟨lw_p0, List.forall_mem_cons.mpr ⟨lw_p1, List.forall_mem_cons.mpr ⟨lw_p2, List.forall_mem_cons.mpr ⟨lw_p3, List.forall_mem_cons.mpr ⟨lw_p4, List.forall_mem_cons.mpr ⟨lw_p5, List.forall_mem_cons.mpr ⟨lw_p6, List.forall_mem_cons.mpr ⟨lw_p7, List.forall_mem_cons.mpr ⟨lw_p8, List.forall_mem_cons.mpr ⟨lw_p9, List.forall_mem_cons.mpr ⟨lw_p10, List.forall_mem_cons.mpr ⟨lw_p11, List.forall_mem_cons.mpr ⟨lw_p12, List.forall_mem_cons.mpr ⟨lw_p13, List.forall_mem_cons.mpr ⟨lw_p14, List.forall_mem_cons.mpr ⟨lw_p15, fun _ h => absurd h List.not_mem_nil⟩⟩⟩⟩⟩⟩⟩⟩⟩⟩⟩⟩⟩⟩⟩⟩
theorem lw_p16 : lw_okq (⟨"NightWells", "drawingSets", "(LNightWells$Row;)I"⟩, 10) := ⟨⟨by decide +kernel, by decide +kernel⟩, List.mem_of_getElem? (i := 16) (by decide +kernel), List.mem_of_getElem? (i := 513) (by decide +kernel), List.mem_of_getElem? (i := 514) (by decide +kernel)⟩
theorem lw_p17 : lw_okq (⟨"NightWells", "wouldLeave", "(ILNightWells$Row;)Z"⟩, 10) := ⟨⟨by decide +kernel, by decide +kernel⟩, List.mem_of_getElem? (i := 16) (by decide +kernel), List.mem_of_getElem? (i := 517) (by decide +kernel), List.mem_of_getElem? (i := 518) (by decide +kernel)⟩
theorem lw_p18 : lw_okq (⟨"NightWells", "leastDrawingSet", "(LNightWells$Row;)I"⟩, 10) := ⟨⟨by decide +kernel, by decide +kernel⟩, List.mem_of_getElem? (i := 16) (by decide +kernel), List.mem_of_getElem? (i := 522) (by decide +kernel), List.mem_of_getElem? (i := 523) (by decide +kernel)⟩
theorem lw_p19 : lw_okq (⟨"NightWells", "lackedWithMoreFlow", "(III)I"⟩, 10) := ⟨⟨by decide +kernel, by decide +kernel⟩, List.mem_of_getElem? (i := 16) (by decide +kernel), List.mem_of_getElem? (i := 530) (by decide +kernel), List.mem_of_getElem? (i := 531) (by decide +kernel)⟩
theorem lw_p20 : lw_okq (⟨"NightWells", "rowsThere", "()I"⟩, 10) := ⟨⟨by decide +kernel, by decide +kernel⟩, List.mem_of_getElem? (i := 16) (by decide +kernel), List.mem_of_getElem? (i := 590) (by decide +kernel), List.mem_of_getElem? (i := 591) (by decide +kernel)⟩
theorem lw_p21 : lw_okq (⟨"NightWellsModel", "found", "(I)I"⟩, 23) := ⟨⟨by decide +kernel, by decide +kernel⟩, List.mem_of_getElem? (i := 598) (by decide +kernel), List.mem_of_getElem? (i := 688) (by decide +kernel), List.mem_of_getElem? (i := 689) (by decide +kernel)⟩
theorem lw_p22 : lw_okq (⟨"NightWellsModel", "well", "(I)I"⟩, 23) := ⟨⟨by decide +kernel, by decide +kernel⟩, List.mem_of_getElem? (i := 598) (by decide +kernel), List.mem_of_getElem? (i := 693) (by decide +kernel), List.mem_of_getElem? (i := 694) (by decide +kernel)⟩
theorem lw_p23 : lw_okq (⟨"NightWellsModel", "reads", "()Z"⟩, 23) := ⟨⟨by decide +kernel, by decide +kernel⟩, List.mem_of_getElem? (i := 598) (by decide +kernel), List.mem_of_getElem? (i := 720) (by decide +kernel), List.mem_of_getElem? (i := 721) (by decide +kernel)⟩
theorem lw_p24 : lw_okq (⟨"NightWellsModel", "next", "()V"⟩, 23) := ⟨⟨by decide +kernel, by decide +kernel⟩, List.mem_of_getElem? (i := 598) (by decide +kernel), List.mem_of_getElem? (i := 724) (by decide +kernel), List.mem_of_getElem? (i := 725) (by decide +kernel)⟩
theorem lw_p25 : lw_okq (⟨"NightWellsModel", "mustBe", "(Z)Z"⟩, 23) := ⟨⟨by decide +kernel, by decide +kernel⟩, List.mem_of_getElem? (i := 598) (by decide +kernel), List.mem_of_getElem? (i := 740) (by decide +kernel), List.mem_of_getElem? (i := 741) (by decide +kernel)⟩
theorem lw_p26 : lw_okq (⟨"NightWellsModel", "number", "(III)Z"⟩, 23) := ⟨⟨by decide +kernel, by decide +kernel⟩, List.mem_of_getElem? (i := 598) (by decide +kernel), List.mem_of_getElem? (i := 744) (by decide +kernel), List.mem_of_getElem? (i := 745) (by decide +kernel)⟩
theorem lw_p27 : lw_okq (⟨"NightWellsModel", "ends", "()Z"⟩, 23) := ⟨⟨by decide +kernel, by decide +kernel⟩, List.mem_of_getElem? (i := 598) (by decide +kernel), List.mem_of_getElem? (i := 748) (by decide +kernel), List.mem_of_getElem? (i := 749) (by decide +kernel)⟩
theorem lw_p28 : lw_okq (⟨"NightWellsModel", "village", "()Z"⟩, 23) := ⟨⟨by decide +kernel, by decide +kernel⟩, List.mem_of_getElem? (i := 598) (by decide +kernel), List.mem_of_getElem? (i := 752) (by decide +kernel), List.mem_of_getElem? (i := 753) (by decide +kernel)⟩
theorem lw_p29 : lw_okq (⟨"NightWellsModel", "kindHere", "()I"⟩, 23) := ⟨⟨by decide +kernel, by decide +kernel⟩, List.mem_of_getElem? (i := 598) (by decide +kernel), List.mem_of_getElem? (i := 757) (by decide +kernel), List.mem_of_getElem? (i := 758) (by decide +kernel)⟩
theorem lw_p30 : lw_okq (⟨"NightWellsModel", "remember", "()V"⟩, 23) := ⟨⟨by decide +kernel, by decide +kernel⟩, List.mem_of_getElem? (i := 598) (by decide +kernel), List.mem_of_getElem? (i := 780) (by decide +kernel), List.mem_of_getElem? (i := 781) (by decide +kernel)⟩
theorem lw_p31 : lw_okq (⟨"NightWellsModel", "isVillage", "(I)Z"⟩, 23) := ⟨⟨by decide +kernel, by decide +kernel⟩, List.mem_of_getElem? (i := 598) (by decide +kernel), List.mem_of_getElem? (i := 808) (by decide +kernel), List.mem_of_getElem? (i := 809) (by decide +kernel)⟩
def lw_privs_2 : List (MethodName × Nat) := [(⟨"NightWells", "drawingSets", "(LNightWells$Row;)I"⟩, 10), (⟨"NightWells", "wouldLeave", "(ILNightWells$Row;)Z"⟩, 10), (⟨"NightWells", "leastDrawingSet", "(LNightWells$Row;)I"⟩, 10), (⟨"NightWells", "lackedWithMoreFlow", "(III)I"⟩, 10), (⟨"NightWells", "rowsThere", "()I"⟩, 10), (⟨"NightWellsModel", "found", "(I)I"⟩, 23), (⟨"NightWellsModel", "well", "(I)I"⟩, 23), (⟨"NightWellsModel", "reads", "()Z"⟩, 23), (⟨"NightWellsModel", "next", "()V"⟩, 23), (⟨"NightWellsModel", "mustBe", "(Z)Z"⟩, 23), (⟨"NightWellsModel", "number", "(III)Z"⟩, 23), (⟨"NightWellsModel", "ends", "()Z"⟩, 23), (⟨"NightWellsModel", "village", "()Z"⟩, 23), (⟨"NightWellsModel", "kindHere", "()I"⟩, 23), (⟨"NightWellsModel", "remember", "()V"⟩, 23), (⟨"NightWellsModel", "isVillage", "(I)Z"⟩, 23)]
theorem lw_r2 : ∀ q ∈ lw_privs_2, lw_okq q := List.forall_mem_cons.mpr ⟨lw_p16, List.forall_mem_cons.mpr ⟨lw_p17, List.forall_mem_cons.mpr ⟨lw_p18, List.forall_mem_cons.mpr ⟨lw_p19, List.forall_mem_cons.mpr ⟨lw_p20, List.forall_mem_cons.mpr ⟨lw_p21, List.forall_mem_cons.mpr ⟨lw_p22, List.forall_mem_cons.mpr ⟨lw_p23, List.forall_mem_cons.mpr ⟨lw_p24, List.forall_mem_cons.mpr ⟨lw_p25, List.forall_mem_cons.mpr ⟨lw_p26, List.forall_mem_cons.mpr ⟨lw_p27, List.forall_mem_cons.mpr ⟨lw_p28, List.forall_mem_cons.mpr ⟨lw_p29, List.forall_mem_cons.mpr ⟨lw_p30, List.forall_mem_cons.mpr ⟨lw_p31, fun _ h => absurd h List.not_mem_nil⟩⟩⟩⟩⟩⟩⟩⟩⟩⟩⟩⟩⟩⟩⟩⟩
theorem lw_p32 : lw_okq (⟨"NightWellsModel", "tries", "()V"⟩, 23) := ⟨⟨by decide +kernel, by decide +kernel⟩, List.mem_of_getElem? (i := 598) (by decide +kernel), List.mem_of_getElem? (i := 826) (by decide +kernel), List.mem_of_getElem? (i := 827) (by decide +kernel)⟩
theorem lw_p33 : lw_okq (⟨"NightWellsModel", "lacksIn", "(I)I"⟩, 23) := ⟨⟨by decide +kernel, by decide +kernel⟩, List.mem_of_getElem? (i := 598) (by decide +kernel), List.mem_of_getElem? (i := 834) (by decide +kernel), List.mem_of_getElem? (i := 835) (by decide +kernel)⟩
theorem lw_p34 : lw_okq (⟨"NightWellsModel", "notes", "()V"⟩, 23) := ⟨⟨by decide +kernel, by decide +kernel⟩, List.mem_of_getElem? (i := 598) (by decide +kernel), List.mem_of_getElem? (i := 843) (by decide +kernel), List.mem_of_getElem? (i := 844) (by decide +kernel)⟩
theorem lw_p35 : lw_okq (⟨"NightWellsModel", "isAsNow", "()Z"⟩, 23) := ⟨⟨by decide +kernel, by decide +kernel⟩, List.mem_of_getElem? (i := 598) (by decide +kernel), List.mem_of_getElem? (i := 847) (by decide +kernel), List.mem_of_getElem? (i := 848) (by decide +kernel)⟩
theorem lw_p36 : lw_okq (⟨"NightWellsModel", "lacks", "(I)I"⟩, 23) := ⟨⟨by decide +kernel, by decide +kernel⟩, List.mem_of_getElem? (i := 598) (by decide +kernel), List.mem_of_getElem? (i := 870) (by decide +kernel), List.mem_of_getElem? (i := 871) (by decide +kernel)⟩
theorem lw_p37 : lw_okq (⟨"NightWellsModel", "mark", "(I)I"⟩, 23) := ⟨⟨by decide +kernel, by decide +kernel⟩, List.mem_of_getElem? (i := 598) (by decide +kernel), List.mem_of_getElem? (i := 901) (by decide +kernel), List.mem_of_getElem? (i := 902) (by decide +kernel)⟩
theorem lw_p38 : lw_okq (⟨"NightWellsModel", "leave", "(J)V"⟩, 23) := ⟨⟨by decide +kernel, by decide +kernel⟩, List.mem_of_getElem? (i := 598) (by decide +kernel), List.mem_of_getElem? (i := 908) (by decide +kernel), List.mem_of_getElem? (i := 909) (by decide +kernel)⟩
theorem lw_p39 : lw_okq (⟨"NightWellsModel", "sizeOf", "(I)I"⟩, 23) := ⟨⟨by decide +kernel, by decide +kernel⟩, List.mem_of_getElem? (i := 598) (by decide +kernel), List.mem_of_getElem? (i := 915) (by decide +kernel), List.mem_of_getElem? (i := 916) (by decide +kernel)⟩
def lw_privs_3 : List (MethodName × Nat) := [(⟨"NightWellsModel", "tries", "()V"⟩, 23), (⟨"NightWellsModel", "lacksIn", "(I)I"⟩, 23), (⟨"NightWellsModel", "notes", "()V"⟩, 23), (⟨"NightWellsModel", "isAsNow", "()Z"⟩, 23), (⟨"NightWellsModel", "lacks", "(I)I"⟩, 23), (⟨"NightWellsModel", "mark", "(I)I"⟩, 23), (⟨"NightWellsModel", "leave", "(J)V"⟩, 23), (⟨"NightWellsModel", "sizeOf", "(I)I"⟩, 23)]
theorem lw_r3 : ∀ q ∈ lw_privs_3, lw_okq q := List.forall_mem_cons.mpr ⟨lw_p32, List.forall_mem_cons.mpr ⟨lw_p33, List.forall_mem_cons.mpr ⟨lw_p34, List.forall_mem_cons.mpr ⟨lw_p35, List.forall_mem_cons.mpr ⟨lw_p36, List.forall_mem_cons.mpr ⟨lw_p37, List.forall_mem_cons.mpr ⟨lw_p38, List.forall_mem_cons.mpr ⟨lw_p39, fun _ h => absurd h List.not_mem_nil⟩⟩⟩⟩⟩⟩⟩⟩
def lw_privs : List (MethodName × Nat) := lw_privs_1 ++ (lw_privs_2 ++ (lw_privs_3))
def lw_tbl : List Cond := k2_sels lw_privs ++ tables_1
theorem lw_privs_ok : ∀ q ∈ lw_privs, lw_okq q := by
  show ∀ q ∈ lw_privs_1 ++ (lw_privs_2 ++ (lw_privs_3)), lw_okq q
  exact List.forall_mem_append.mpr ⟨lw_r1, List.forall_mem_append.mpr ⟨lw_r2, lw_r3⟩⟩
-- ===== end of PART A; then your names; then what follows =====
-- names printed of the program (NAMES.whole): classes, fields, methods
def RX0 : String := "NightWells$Acts"
def TX0 : u_T := fun k => match k with
  | 0 => ("NightWells$Acts", "stood", "[LNightWells$Plain;", true)
  | 1 => ("NightWells$Acts", "next", "I", false)
  | _ => ("NightWells$Acts", "kept", "I", false)
def tyX0 : Nat → FieldType := fun k => match k with
  | 0 => .array (.object "NightWells$Plain")
  | 1 => .int
  | _ => .int
abbrev wsX00 : List Cond := u_ws RX0 TX0 3
theorem nmX0 : ∀ a, a < 3 → ∀ b, b < 3 → a ≠ b → (TX0 a).2.1 ≠ (TX0 b).2.1 := by decide +kernel
theorem tyX0_ok : ∀ k, k < 3 → parseFieldDescriptor (TX0 k).2.2.1 = some (tyX0 k) := by decide +kernel
abbrev cX0_init : ByteArray := prog_2_method_1_code
def yX0_init : MethodName := ⟨RX0, "<init>", "()V"⟩
abbrev cX0_forgetAll : ByteArray := prog_2_method_2_code
def yX0_forgetAll : MethodName := ⟨RX0, "forgetAll", "()V"⟩
abbrev cX0_keep : ByteArray := prog_2_method_3_code
def yX0_keep : MethodName := ⟨RX0, "keep", "(LNightWells$Plain;)V"⟩
abbrev cX0_bringBack : ByteArray := prog_2_method_4_code
def yX0_bringBack : MethodName := ⟨RX0, "bringBack", "(LNightWells$Plain;)V"⟩
def RX1 : String := "NightWells$Plain"
def TX1 : u_T := fun k => match k with
  | 0 => ("NightWells$Plain", "kinds", "[I", true)
  | 1 => ("NightWells$Plain", "fills", "[I", true)
  | 2 => ("NightWells$Plain", "flows", "[I", true)
  | 3 => ("NightWells$Plain", "needs", "[I", true)
  | 4 => ("NightWells$Plain", "lacks", "[I", true)
  | 5 => ("NightWells$Plain", "told", "Z", false)
  | 6 => ("NightWells$Plain", "night", "I", false)
  | 7 => ("NightWells$Plain", "room", "I", false)
  | 8 => ("NightWells$Plain", "villages", "I", false)
  | 9 => ("NightWells$Plain", "days", "I", false)
  | _ => ("NightWells$Plain", "guarding", "I", false)
def tyX1 : Nat → FieldType := fun k => match k with
  | 0 => .array .int
  | 1 => .array .int
  | 2 => .array .int
  | 3 => .array .int
  | 4 => .array .int
  | 5 => .boolean
  | 6 => .int
  | 7 => .int
  | 8 => .int
  | 9 => .int
  | _ => .int
abbrev wsX10 : List Cond := u_ws RX1 TX1 11
theorem nmX1 : ∀ a, a < 11 → ∀ b, b < 11 → a ≠ b → (TX1 a).2.1 ≠ (TX1 b).2.1 := by decide +kernel
theorem tyX1_ok : ∀ k, k < 11 → parseFieldDescriptor (TX1 k).2.2.1 = some (tyX1 k) := by decide +kernel
abbrev cX1_init : ByteArray := prog_3_method_1_code
def yX1_init : MethodName := ⟨RX1, "<init>", "()V"⟩
abbrev cX1_begin : ByteArray := prog_3_method_2_code
def yX1_begin : MethodName := ⟨RX1, "begin", "(II)V"⟩
abbrev cX1_take : ByteArray := prog_3_method_3_code
def yX1_take : MethodName := ⟨RX1, "take", "(LNightWells$Plain;)V"⟩
abbrev cX1_forgetLacks : ByteArray := prog_3_method_4_code
def yX1_forgetLacks : MethodName := ⟨RX1, "forgetLacks", "()V"⟩
abbrev cX1_has : ByteArray := prog_3_method_5_code
def yX1_has : MethodName := ⟨RX1, "has", "(I)Z"⟩
abbrev cX1_hasFillsOf : ByteArray := prog_3_method_6_code
def yX1_hasFillsOf : MethodName := ⟨RX1, "hasFillsOf", "(LNightWells$Plain;)Z"⟩
abbrev cX1_sum : ByteArray := prog_3_method_7_code
def yX1_sum : MethodName := ⟨RX1, "sum", "([I)I"⟩
abbrev cX1_wants : ByteArray := prog_3_method_8_code
def yX1_wants : MethodName := ⟨RX1, "wants", "(I)I"⟩
abbrev cX1_passDay : ByteArray := prog_3_method_9_code
def yX1_passDay : MethodName := ⟨RX1, "passDay", "(I)I"⟩
abbrev cX1_passNight : ByteArray := prog_3_method_10_code
def yX1_passNight : MethodName := ⟨RX1, "passNight", "(I)V"⟩
abbrev cX1_isGuarding : ByteArray := prog_3_method_11_code
def yX1_isGuarding : MethodName := ⟨RX1, "isGuarding", "(I)Z"⟩
abbrev cX1_isWatched : ByteArray := prog_3_method_12_code
def yX1_isWatched : MethodName := ⟨RX1, "isWatched", "(I)Z"⟩
abbrev cX1_passDays : ByteArray := prog_3_method_13_code
def yX1_passDays : MethodName := ⟨RX1, "passDays", "(I)V"⟩
abbrev cX1_firstLack : ByteArray := prog_3_method_14_code
def yX1_firstLack : MethodName := ⟨RX1, "firstLack", "(I)I"⟩
def RX2 : String := "NightWells$Row"
def TX2 : u_T := fun k => match k with
  | 0 => ("NightWells$Row", "items", "[I", true)
  | 1 => ("NightWells$Row", "there", "Z", false)
  | 2 => ("NightWells$Row", "lane", "I", false)
  | _ => ("NightWells$Row", "length", "I", false)
def tyX2 : Nat → FieldType := fun k => match k with
  | 0 => .array .int
  | 1 => .boolean
  | 2 => .int
  | _ => .int
abbrev wsX20 : List Cond := u_ws RX2 TX2 4
theorem nmX2 : ∀ a, a < 4 → ∀ b, b < 4 → a ≠ b → (TX2 a).2.1 ≠ (TX2 b).2.1 := by decide +kernel
theorem tyX2_ok : ∀ k, k < 4 → parseFieldDescriptor (TX2 k).2.2.1 = some (tyX2 k) := by decide +kernel
abbrev cX2_init : ByteArray := prog_4_method_1_code
def yX2_init : MethodName := ⟨RX2, "<init>", "()V"⟩
abbrev cX2_make : ByteArray := prog_4_method_2_code
def yX2_make : MethodName := ⟨RX2, "make", "(II)V"⟩
abbrev cX2_spans : ByteArray := prog_4_method_3_code
def yX2_spans : MethodName := ⟨RX2, "spans", "(II)Z"⟩
abbrev cX2_put : ByteArray := prog_4_method_4_code
def yX2_put : MethodName := ⟨RX2, "put", "(II)I"⟩
abbrev cX2_inLane : ByteArray := prog_4_method_5_code
def yX2_inLane : MethodName := ⟨RX2, "inLane", "(I)I"⟩
def RX3 : String := "NightWells$Tape"
def TX3 : u_T := fun k => match k with
  | 0 => ("NightWells$Tape", "bytes", "[B", true)
  | 1 => ("NightWells$Tape", "length", "I", false)
  | 2 => ("NightWells$Tape", "fault", "I", false)
  | 3 => ("NightWells$Tape", "place", "I", false)
  | 4 => ("NightWells$Tape", "at", "I", false)
  | 5 => ("NightWells$Tape", "start", "I", false)
  | 6 => ("NightWells$Tape", "token", "I", false)
  | _ => ("NightWells$Tape", "number", "I", false)
def tyX3 : Nat → FieldType := fun k => match k with
  | 0 => .array .byte
  | 1 => .int
  | 2 => .int
  | 3 => .int
  | 4 => .int
  | 5 => .int
  | 6 => .int
  | _ => .int
abbrev wsX30 : List Cond := u_ws RX3 TX3 8
theorem nmX3 : ∀ a, a < 8 → ∀ b, b < 8 → a ≠ b → (TX3 a).2.1 ≠ (TX3 b).2.1 := by decide +kernel
theorem tyX3_ok : ∀ k, k < 8 → parseFieldDescriptor (TX3 k).2.2.1 = some (tyX3 k) := by decide +kernel
abbrev cX3_init : ByteArray := prog_5_method_1_code
def yX3_init : MethodName := ⟨RX3, "<init>", "()V"⟩
abbrev cX3_append : ByteArray := prog_5_method_2_code
def yX3_append : MethodName := ⟨RX3, "append", "(JI)V"⟩
abbrev cX3_read : ByteArray := prog_5_method_3_code
def yX3_read : MethodName := ⟨RX3, "read", "(LNightWells$Plain;)Z"⟩
abbrev cX3_readVillage : ByteArray := prog_5_method_4_code
def yX3_readVillage : MethodName := ⟨RX3, "readVillage", "(LNightWells$Plain;I)V"⟩
abbrev cX3_blame : ByteArray := prog_5_method_5_code
def yX3_blame : MethodName := ⟨RX3, "blame", "(I)V"⟩
abbrev cX3_readWord : ByteArray := prog_5_method_6_code
def yX3_readWord : MethodName := ⟨RX3, "readWord", "(Ljava/lang/String;)V"⟩
abbrev cX3_readSort : ByteArray := prog_5_method_7_code
def yX3_readSort : MethodName := ⟨RX3, "readSort", "()I"⟩
abbrev cX3_readNumber : ByteArray := prog_5_method_8_code
def yX3_readNumber : MethodName := ⟨RX3, "readNumber", "(II)I"⟩
abbrev cX3_readSign : ByteArray := prog_5_method_9_code
def yX3_readSign : MethodName := ⟨RX3, "readSign", "()V"⟩
abbrev cX3_advance : ByteArray := prog_5_method_10_code
def yX3_advance : MethodName := ⟨RX3, "advance", "()V"⟩
abbrev cX3_advanceNumber : ByteArray := prog_5_method_11_code
def yX3_advanceNumber : MethodName := ⟨RX3, "advanceNumber", "()V"⟩
abbrev cX3_isLetter : ByteArray := prog_5_method_12_code
def yX3_isLetter : MethodName := ⟨RX3, "isLetter", "(I)Z"⟩
abbrev cX3_isFigure : ByteArray := prog_5_method_13_code
def yX3_isFigure : MethodName := ⟨RX3, "isFigure", "(I)Z"⟩
abbrev cX3_spells : ByteArray := prog_5_method_14_code
def yX3_spells : MethodName := ⟨RX3, "spells", "(Ljava/lang/String;)Z"⟩
def RX4 : String := "NightWells$Trace"
def TX4 : u_T := fun k => match k with
  | 0 => ("NightWells$Trace", "numbers", "[I", true)
  | _ => ("NightWells$Trace", "length", "I", false)
def tyX4 : Nat → FieldType := fun k => match k with
  | 0 => .array .int
  | _ => .int
abbrev wsX40 : List Cond := u_ws RX4 TX4 2
theorem nmX4 : ∀ a, a < 2 → ∀ b, b < 2 → a ≠ b → (TX4 a).2.1 ≠ (TX4 b).2.1 := by decide +kernel
theorem tyX4_ok : ∀ k, k < 2 → parseFieldDescriptor (TX4 k).2.2.1 = some (tyX4 k) := by decide +kernel
abbrev cX4_init : ByteArray := prog_6_method_1_code
def yX4_init : MethodName := ⟨RX4, "<init>", "()V"⟩
abbrev cX4_add : ByteArray := prog_6_method_2_code
def yX4_add : MethodName := ⟨RX4, "add", "(I)V"⟩
def RX5 : String := "NightWells"
def TX5 : u_T := fun k => match k with
  | 0 => ("NightWells", "rows", "[LNightWells$Row;", true)
  | 1 => ("NightWells", "tape", "LNightWells$Tape;", true)
  | 2 => ("NightWells", "now", "LNightWells$Plain;", true)
  | 3 => ("NightWells", "draft", "LNightWells$Plain;", true)
  | 4 => ("NightWells", "tried", "LNightWells$Plain;", true)
  | 5 => ("NightWells", "acts", "LNightWells$Acts;", true)
  | 6 => ("NightWells", "images", "[LNightWells$Plain;", true)
  | 7 => ("NightWells", "left", "LNightWells$Trace;", true)
  | 8 => ("NightWells", "latestFault", "I", false)
  | _ => ("NightWells", "latestFinding", "I", false)
def tyX5 : Nat → FieldType := fun k => match k with
  | 0 => .array (.object "NightWells$Row")
  | 1 => .object "NightWells$Tape"
  | 2 => .object "NightWells$Plain"
  | 3 => .object "NightWells$Plain"
  | 4 => .object "NightWells$Plain"
  | 5 => .object "NightWells$Acts"
  | 6 => .array (.object "NightWells$Plain")
  | 7 => .object "NightWells$Trace"
  | 8 => .int
  | _ => .int
abbrev wsX50 : List Cond := u_ws RX5 TX5 10
theorem nmX5 : ∀ a, a < 10 → ∀ b, b < 10 → a ≠ b → (TX5 a).2.1 ≠ (TX5 b).2.1 := by decide +kernel
theorem tyX5_ok : ∀ k, k < 10 → parseFieldDescriptor (TX5 k).2.2.1 = some (tyX5 k) := by decide +kernel
abbrev cX5_init : ByteArray := prog_1_method_1_code
def yX5_init : MethodName := ⟨RX5, "<init>", "()V"⟩
abbrev cX5_row : ByteArray := prog_1_method_2_code
def yX5_row : MethodName := ⟨RX5, "row", "(III)I"⟩
abbrev cX5_set : ByteArray := prog_1_method_3_code
def yX5_set : MethodName := ⟨RX5, "set", "(III)I"⟩
abbrev cX5_copy : ByteArray := prog_1_method_4_code
def yX5_copy : MethodName := ⟨RX5, "copy", "(IIIII)I"⟩
abbrev cX5_drop : ByteArray := prog_1_method_5_code
def yX5_drop : MethodName := ⟨RX5, "drop", "(I)I"⟩
abbrev cX5_feed : ByteArray := prog_1_method_6_code
def yX5_feed : MethodName := ⟨RX5, "feed", "(JI)I"⟩
abbrev cX5_plain : ByteArray := prog_1_method_7_code
def yX5_plain : MethodName := ⟨RX5, "plain", "()I"⟩
abbrev cX5_fault : ByteArray := prog_1_method_8_code
def yX5_fault : MethodName := ⟨RX5, "fault", "()I"⟩
abbrev cX5_day : ByteArray := prog_1_method_9_code
def yX5_day : MethodName := ⟨RX5, "day", "(I)I"⟩
abbrev cX5_weather : ByteArray := prog_1_method_10_code
def yX5_weather : MethodName := ⟨RX5, "weather", "(I)I"⟩
abbrev cX5_guard : ByteArray := prog_1_method_11_code
def yX5_guard : MethodName := ⟨RX5, "guard", "(II)I"⟩
abbrev cX5_undo : ByteArray := prog_1_method_12_code
def yX5_undo : MethodName := ⟨RX5, "undo", "()I"⟩
abbrev cX5_village : ByteArray := prog_1_method_13_code
def yX5_village : MethodName := ⟨RX5, "village", "(II)I"⟩
abbrev cX5_ahead : ByteArray := prog_1_method_14_code
def yX5_ahead : MethodName := ⟨RX5, "ahead", "(III)I"⟩
abbrev cX5_first : ByteArray := prog_1_method_15_code
def yX5_first : MethodName := ⟨RX5, "first", "(I)I"⟩
abbrev cX5_rest : ByteArray := prog_1_method_16_code
def yX5_rest : MethodName := ⟨RX5, "rest", "(I)I"⟩
abbrev cX5_most : ByteArray := prog_1_method_17_code
def yX5_most : MethodName := ⟨RX5, "most", "(I)I"⟩
abbrev cX5_guards : ByteArray := prog_1_method_18_code
def yX5_guards : MethodName := ⟨RX5, "guards", "(I)I"⟩
abbrev cX5_drew : ByteArray := prog_1_method_19_code
def yX5_drew : MethodName := ⟨RX5, "drew", "(II)I"⟩
abbrev cX5_where : ByteArray := prog_1_method_20_code
def yX5_where : MethodName := ⟨RX5, "where", "(III)I"⟩
abbrev cX5_wed : ByteArray := prog_1_method_21_code
def yX5_wed : MethodName := ⟨RX5, "wed", "(III)I"⟩
abbrev cX5_image : ByteArray := prog_1_method_22_code
def yX5_image : MethodName := ⟨RX5, "image", "(I)I"⟩
abbrev cX5_restore : ByteArray := prog_1_method_23_code
def yX5_restore : MethodName := ⟨RX5, "restore", "(I)I"⟩
abbrev cX5_kind : ByteArray := prog_1_method_24_code
def yX5_kind : MethodName := ⟨RX5, "kind", "(I)I"⟩
abbrev cX5_as : ByteArray := prog_1_method_25_code
def yX5_as : MethodName := ⟨RX5, "as", "(II)I"⟩
abbrev cX5_ask : ByteArray := prog_1_method_26_code
def yX5_ask : MethodName := ⟨RX5, "ask", "(II)I"⟩
abbrev cX5_trace : ByteArray := prog_1_method_27_code
def yX5_trace : MethodName := ⟨RX5, "trace", "(I)I"⟩
abbrev cX5_count : ByteArray := prog_1_method_28_code
def yX5_count : MethodName := ⟨RX5, "count", "(I)I"⟩
abbrev cX5_status : ByteArray := prog_1_method_29_code
def yX5_status : MethodName := ⟨RX5, "status", "()I"⟩
abbrev cX5_isRow : ByteArray := prog_1_method_30_code
def yX5_isRow : MethodName := ⟨RX5, "isRow", "(I)Z"⟩
abbrev cX5_found : ByteArray := prog_1_method_31_code
def yX5_found : MethodName := ⟨RX5, "found", "(I)I"⟩
abbrev cX5_rowsThere : ByteArray := prog_1_method_32_code
def yX5_rowsThere : MethodName := ⟨RX5, "rowsThere", "()I"⟩
abbrev cX5_startForetelling : ByteArray := prog_1_method_33_code
def yX5_startForetelling : MethodName := ⟨RX5, "startForetelling", "()V"⟩
abbrev cX5_daysToRest : ByteArray := prog_1_method_34_code
def yX5_daysToRest : MethodName := ⟨RX5, "daysToRest", "()I"⟩
abbrev cX5_daysToReturn : ByteArray := prog_1_method_35_code
def yX5_daysToReturn : MethodName := ⟨RX5, "daysToReturn", "()I"⟩
abbrev cX5_leastGuards : ByteArray := prog_1_method_36_code
def yX5_leastGuards : MethodName := ⟨RX5, "leastGuards", "(II)I"⟩
abbrev cX5_drawingSets : ByteArray := prog_1_method_37_code
def yX5_drawingSets : MethodName := ⟨RX5, "drawingSets", "(LNightWells$Row;)I"⟩
abbrev cX5_leastDrawingSet : ByteArray := prog_1_method_38_code
def yX5_leastDrawingSet : MethodName := ⟨RX5, "leastDrawingSet", "(LNightWells$Row;)I"⟩
abbrev cX5_wouldLeave : ByteArray := prog_1_method_39_code
def yX5_wouldLeave : MethodName := ⟨RX5, "wouldLeave", "(ILNightWells$Row;)Z"⟩
abbrev cX5_lackedWithMoreFlow : ByteArray := prog_1_method_40_code
def yX5_lackedWithMoreFlow : MethodName := ⟨RX5, "lackedWithMoreFlow", "(III)I"⟩
abbrev cX5_isOne : ByteArray := prog_1_method_41_code
def yX5_isOne : MethodName := ⟨RX5, "isOne", "(II)Z"⟩
abbrev cX5_nextKind : ByteArray := prog_1_method_42_code
def yX5_nextKind : MethodName := ⟨RX5, "nextKind", "(I)I"⟩
abbrev cX5_sizeBody : ByteArray := prog_1_method_43_code
def yX5_sizeBody : MethodName := ⟨RX5, "sizeBody", "(I)I"⟩
abbrev cX5_markBody : ByteArray := prog_1_method_44_code
def yX5_markBody : MethodName := ⟨RX5, "markBody", "(I)I"⟩
abbrev cX5_answer : ByteArray := prog_1_method_45_code
def yX5_answer : MethodName := ⟨RX5, "answer", "(ILNightWells$Plain;ILNightWells$Trace;I)I"⟩
def RX6 : String := "NightWellsModel"
def TX6 : u_T := fun k => match k with
  | 0 => ("NightWellsModel", "lanes", "[I", true)
  | 1 => ("NightWellsModel", "sizes", "[I", true)
  | 2 => ("NightWellsModel", "items", "[I", true)
  | 3 => ("NightWellsModel", "status", "I", false)
  | 4 => ("NightWellsModel", "tape", "[I", true)
  | 5 => ("NightWellsModel", "taped", "I", false)
  | 6 => ("NightWellsModel", "fault", "I", false)
  | 7 => ("NightWellsModel", "isPlain", "Z", false)
  | 8 => ("NightWellsModel", "now", "[I", true)
  | 9 => ("NightWellsModel", "acts", "I", false)
  | 10 => ("NightWellsModel", "before", "[I", true)
  | 11 => ("NightWellsModel", "images", "[I", true)
  | 12 => ("NightWellsModel", "kept", "[Z", true)
  | 13 => ("NightWellsModel", "traced", "I", false)
  | 14 => ("NightWellsModel", "trace", "[I", true)
  | 15 => ("NightWellsModel", "at", "I", false)
  | 16 => ("NightWellsModel", "begin", "I", false)
  | 17 => ("NightWellsModel", "token", "I", false)
  | 18 => ("NightWellsModel", "value", "J", false)
  | 19 => ("NightWellsModel", "size", "I", false)
  | 20 => ("NightWellsModel", "read", "[I", true)
  | 21 => ("NightWellsModel", "tried", "[I", true)
  | _ => ("NightWellsModel", "fills", "[I", true)
def tyX6 : Nat → FieldType := fun k => match k with
  | 0 => .array .int
  | 1 => .array .int
  | 2 => .array .int
  | 3 => .int
  | 4 => .array .int
  | 5 => .int
  | 6 => .int
  | 7 => .boolean
  | 8 => .array .int
  | 9 => .int
  | 10 => .array .int
  | 11 => .array .int
  | 12 => .array .boolean
  | 13 => .int
  | 14 => .array .int
  | 15 => .int
  | 16 => .int
  | 17 => .int
  | 18 => .long
  | 19 => .int
  | 20 => .array .int
  | 21 => .array .int
  | _ => .array .int
abbrev wsX60 : List Cond := u_ws RX6 TX6 23
theorem nmX6 : ∀ a, a < 23 → ∀ b, b < 23 → a ≠ b → (TX6 a).2.1 ≠ (TX6 b).2.1 := by decide +kernel
theorem tyX6_ok : ∀ k, k < 23 → parseFieldDescriptor (TX6 k).2.2.1 = some (tyX6 k) := by decide +kernel
abbrev cX6_init : ByteArray := prog_8_method_1_code
def yX6_init : MethodName := ⟨RX6, "<init>", "()V"⟩
abbrev cX6_in : ByteArray := prog_8_method_3_code
def yX6_in : MethodName := ⟨RX6, "in", "(JJJ)Z"⟩
abbrev cX6_found : ByteArray := prog_8_method_4_code
def yX6_found : MethodName := ⟨RX6, "found", "(I)I"⟩
abbrev cX6_well : ByteArray := prog_8_method_5_code
def yX6_well : MethodName := ⟨RX6, "well", "(I)I"⟩
abbrev cX6_isRow : ByteArray := prog_8_method_6_code
def yX6_isRow : MethodName := ⟨RX6, "isRow", "(I)Z"⟩
abbrev cX6_row : ByteArray := prog_8_method_7_code
def yX6_row : MethodName := ⟨RX6, "row", "(III)I"⟩
abbrev cX6_set : ByteArray := prog_8_method_8_code
def yX6_set : MethodName := ⟨RX6, "set", "(III)I"⟩
abbrev cX6_copy : ByteArray := prog_8_method_9_code
def yX6_copy : MethodName := ⟨RX6, "copy", "(IIIII)I"⟩
abbrev cX6_drop : ByteArray := prog_8_method_10_code
def yX6_drop : MethodName := ⟨RX6, "drop", "(I)I"⟩
abbrev cX6_feed : ByteArray := prog_8_method_11_code
def yX6_feed : MethodName := ⟨RX6, "feed", "(JI)I"⟩
abbrev cX6_sort : ByteArray := prog_8_method_12_code
def yX6_sort : MethodName := ⟨RX6, "sort", "(I)I"⟩
abbrev cX6_next : ByteArray := prog_8_method_13_code
def yX6_next : MethodName := ⟨RX6, "next", "()V"⟩
abbrev cX6_number : ByteArray := prog_8_method_14_code
def yX6_number : MethodName := ⟨RX6, "number", "(III)Z"⟩
abbrev cX6_mustBe : ByteArray := prog_8_method_15_code
def yX6_mustBe : MethodName := ⟨RX6, "mustBe", "(Z)Z"⟩
abbrev cX6_ends : ByteArray := prog_8_method_16_code
def yX6_ends : MethodName := ⟨RX6, "ends", "()Z"⟩
abbrev cX6_kindHere : ByteArray := prog_8_method_17_code
def yX6_kindHere : MethodName := ⟨RX6, "kindHere", "()I"⟩
abbrev cX6_village : ByteArray := prog_8_method_18_code
def yX6_village : MethodName := ⟨RX6, "village", "()Z"⟩
abbrev cX6_reads : ByteArray := prog_8_method_19_code
def yX6_reads : MethodName := ⟨RX6, "reads", "()Z"⟩
abbrev cX6_plain : ByteArray := prog_8_method_20_code
def yX6_plain : MethodName := ⟨RX6, "plain", "()I"⟩
abbrev cX6_fault : ByteArray := prog_8_method_21_code
def yX6_fault : MethodName := ⟨RX6, "fault", "()I"⟩
abbrev cX6_copies : ByteArray := prog_8_method_22_code
def yX6_copies : MethodName := ⟨RX6, "copies", "([II[II)V"⟩
abbrev cX6_isVillage : ByteArray := prog_8_method_23_code
def yX6_isVillage : MethodName := ⟨RX6, "isVillage", "(I)Z"⟩
abbrev cX6_has : ByteArray := prog_8_method_24_code
def yX6_has : MethodName := ⟨RX6, "has", "(II)Z"⟩
abbrev cX6_wants : ByteArray := prog_8_method_25_code
def yX6_wants : MethodName := ⟨RX6, "wants", "([II)I"⟩
abbrev cX6_draws : ByteArray := prog_8_method_26_code
def yX6_draws : MethodName := ⟨RX6, "draws", "([II)V"⟩
abbrev cX6_goes : ByteArray := prog_8_method_27_code
def yX6_goes : MethodName := ⟨RX6, "goes", "([II)I"⟩
abbrev cX6_remember : ByteArray := prog_8_method_28_code
def yX6_remember : MethodName := ⟨RX6, "remember", "()V"⟩
abbrev cX6_day : ByteArray := prog_8_method_29_code
def yX6_day : MethodName := ⟨RX6, "day", "(I)I"⟩
abbrev cX6_weather : ByteArray := prog_8_method_30_code
def yX6_weather : MethodName := ⟨RX6, "weather", "(I)I"⟩
abbrev cX6_guard : ByteArray := prog_8_method_31_code
def yX6_guard : MethodName := ⟨RX6, "guard", "(II)I"⟩
abbrev cX6_undo : ByteArray := prog_8_method_32_code
def yX6_undo : MethodName := ⟨RX6, "undo", "()I"⟩
abbrev cX6_village_ : ByteArray := prog_8_method_33_code
def yX6_village_ : MethodName := ⟨RX6, "village", "(II)I"⟩
abbrev cX6_tries : ByteArray := prog_8_method_34_code
def yX6_tries : MethodName := ⟨RX6, "tries", "()V"⟩
abbrev cX6_ahead : ByteArray := prog_8_method_35_code
def yX6_ahead : MethodName := ⟨RX6, "ahead", "(III)I"⟩
abbrev cX6_lacksIn : ByteArray := prog_8_method_36_code
def yX6_lacksIn : MethodName := ⟨RX6, "lacksIn", "(I)I"⟩
abbrev cX6_first : ByteArray := prog_8_method_37_code
def yX6_first : MethodName := ⟨RX6, "first", "(I)I"⟩
abbrev cX6_isAsNow : ByteArray := prog_8_method_38_code
def yX6_isAsNow : MethodName := ⟨RX6, "isAsNow", "()Z"⟩
abbrev cX6_notes : ByteArray := prog_8_method_39_code
def yX6_notes : MethodName := ⟨RX6, "notes", "()V"⟩
abbrev cX6_rest : ByteArray := prog_8_method_40_code
def yX6_rest : MethodName := ⟨RX6, "rest", "(I)I"⟩
abbrev cX6_most : ByteArray := prog_8_method_41_code
def yX6_most : MethodName := ⟨RX6, "most", "(I)I"⟩
abbrev cX6_bits : ByteArray := prog_8_method_42_code
def yX6_bits : MethodName := ⟨RX6, "bits", "(I)I"⟩
abbrev cX6_guards : ByteArray := prog_8_method_43_code
def yX6_guards : MethodName := ⟨RX6, "guards", "(I)I"⟩
abbrev cX6_drew : ByteArray := prog_8_method_44_code
def yX6_drew : MethodName := ⟨RX6, "drew", "(II)I"⟩
abbrev cX6_lacks : ByteArray := prog_8_method_45_code
def yX6_lacks : MethodName := ⟨RX6, "lacks", "(I)I"⟩
abbrev cX6_where : ByteArray := prog_8_method_46_code
def yX6_where : MethodName := ⟨RX6, "where", "(III)I"⟩
abbrev cX6_wed : ByteArray := prog_8_method_47_code
def yX6_wed : MethodName := ⟨RX6, "wed", "(III)I"⟩
abbrev cX6_image : ByteArray := prog_8_method_48_code
def yX6_image : MethodName := ⟨RX6, "image", "(I)I"⟩
abbrev cX6_restore : ByteArray := prog_8_method_49_code
def yX6_restore : MethodName := ⟨RX6, "restore", "(I)I"⟩
abbrev cX6_kind : ByteArray := prog_8_method_50_code
def yX6_kind : MethodName := ⟨RX6, "kind", "(I)I"⟩
abbrev cX6_isOf : ByteArray := prog_8_method_51_code
def yX6_isOf : MethodName := ⟨RX6, "isOf", "(II)Z"⟩
abbrev cX6_as : ByteArray := prog_8_method_52_code
def yX6_as : MethodName := ⟨RX6, "as", "(II)I"⟩
abbrev cX6_leave : ByteArray := prog_8_method_53_code
def yX6_leave : MethodName := ⟨RX6, "leave", "(J)V"⟩
abbrev cX6_mark : ByteArray := prog_8_method_54_code
def yX6_mark : MethodName := ⟨RX6, "mark", "(I)I"⟩
abbrev cX6_sizeOf : ByteArray := prog_8_method_55_code
def yX6_sizeOf : MethodName := ⟨RX6, "sizeOf", "(I)I"⟩
abbrev cX6_ask : ByteArray := prog_8_method_56_code
def yX6_ask : MethodName := ⟨RX6, "ask", "(II)I"⟩
abbrev cX6_trace : ByteArray := prog_8_method_57_code
def yX6_trace : MethodName := ⟨RX6, "trace", "(I)I"⟩
abbrev cX6_count : ByteArray := prog_8_method_58_code
def yX6_count : MethodName := ⟨RX6, "count", "(I)I"⟩
abbrev cX6_status : ByteArray := prog_8_method_59_code
def yX6_status : MethodName := ⟨RX6, "status", "()I"⟩
def RJ6 : String := "java/lang/Integer"
def TJ6 : u_T := fun k => match k with
  | _ => ("", "", "", false)
def tyJ6 : Nat → FieldType := fun k => match k with
  | _ => .int
abbrev wsJ60 : List Cond := u_ws RJ6 TJ6 0
theorem nmJ6 : ∀ a, a < 0 → ∀ b, b < 0 → a ≠ b → (TJ6 a).2.1 ≠ (TJ6 b).2.1 := by decide +kernel
theorem tyJ6_ok : ∀ k, k < 0 → parseFieldDescriptor (TJ6 k).2.2.1 = some (tyJ6 k) := by decide +kernel
abbrev cJ6_bitCount_0f7a4 : ByteArray := prog_9_method_49_code
def yJ6_bitCount_0f7a4 : MethodName := ⟨RJ6, "bitCount", "(I)I"⟩
def RJ9 : String := "java/lang/Math"
def TJ9 : u_T := fun k => match k with
  | _ => ("", "", "", false)
def tyJ9 : Nat → FieldType := fun k => match k with
  | _ => .int
abbrev wsJ90 : List Cond := u_ws RJ9 TJ9 0
theorem nmJ9 : ∀ a, a < 0 → ∀ b, b < 0 → a ≠ b → (TJ9 a).2.1 ≠ (TJ9 b).2.1 := by decide +kernel
theorem tyJ9_ok : ∀ k, k < 0 → parseFieldDescriptor (TJ9 k).2.2.1 = some (tyJ9 k) := by decide +kernel
abbrev cJ9_min_7cf53 : ByteArray := prog_10_method_69_code
def yJ9_min_7cf53 : MethodName := ⟨RJ9, "min", "(II)I"⟩
def RJ0 : String := "java/lang/String"
def TJ0 : u_T := fun k => match k with
  | _ => ("", "", "", false)
def tyJ0 : Nat → FieldType := fun k => match k with
  | _ => .int
abbrev wsJ00 : List Cond := u_ws RJ0 TJ0 0
theorem nmJ0 : ∀ a, a < 0 → ∀ b, b < 0 → a ≠ b → (TJ0 a).2.1 ≠ (TJ0 b).2.1 := by decide +kernel
theorem tyJ0_ok : ∀ k, k < 0 → parseFieldDescriptor (TJ0 k).2.2.1 = some (tyJ0 k) := by decide +kernel
abbrev cJ0_length_8abf5 : ByteArray := prog_11_method_54_code
def yJ0_length_8abf5 : MethodName := ⟨RJ0, "length", "()I"⟩
abbrev cJ0_charAt_5068e : ByteArray := prog_11_method_56_code
def yJ0_charAt_5068e : MethodName := ⟨RJ0, "charAt", "(I)C"⟩
abbrev cJ0_coder_7d493 : ByteArray := prog_11_method_152_code
def yJ0_coder_7d493 : MethodName := ⟨RJ0, "coder", "()B"⟩
abbrev cJ0_isLatin1_aae02 : ByteArray := prog_11_method_154_code
def yJ0_isLatin1_aae02 : MethodName := ⟨RJ0, "isLatin1", "()Z"⟩
abbrev cJ0_checkIndex_df160 : ByteArray := prog_11_method_155_code
def yJ0_checkIndex_df160 : MethodName := ⟨RJ0, "checkIndex", "(II)V"⟩
def RJ1 : String := "java/lang/StringLatin1"
def TJ1 : u_T := fun k => match k with
  | _ => ("", "", "", false)
def tyJ1 : Nat → FieldType := fun k => match k with
  | _ => .int
abbrev wsJ10 : List Cond := u_ws RJ1 TJ1 0
theorem nmJ1 : ∀ a, a < 0 → ∀ b, b < 0 → a ≠ b → (TJ1 a).2.1 ≠ (TJ1 b).2.1 := by decide +kernel
theorem tyJ1_ok : ∀ k, k < 0 → parseFieldDescriptor (TJ1 k).2.2.1 = some (tyJ1 k) := by decide +kernel
abbrev cJ1_charAt_3b067 : ByteArray := prog_12_method_2_code
def yJ1_charAt_3b067 : MethodName := ⟨RJ1, "charAt", "([BI)C"⟩
def RJ2 : String := "java/lang/StringUTF16"
def TJ2 : u_T := fun k => match k with
  | _ => ("", "", "", false)
def tyJ2 : Nat → FieldType := fun k => match k with
  | _ => .int
abbrev wsJ20 : List Cond := u_ws RJ2 TJ2 0
theorem nmJ2 : ∀ a, a < 0 → ∀ b, b < 0 → a ≠ b → (TJ2 a).2.1 ≠ (TJ2 b).2.1 := by decide +kernel
theorem tyJ2_ok : ∀ k, k < 0 → parseFieldDescriptor (TJ2 k).2.2.1 = some (tyJ2 k) := by decide +kernel
abbrev cJ2_getChar_3b067 : ByteArray := prog_13_method_5_code
def yJ2_getChar_3b067 : MethodName := ⟨RJ2, "getChar", "([BI)C"⟩
abbrev cJ2_length_9d52b : ByteArray := prog_13_method_6_code
def yJ2_length_9d52b : MethodName := ⟨RJ2, "length", "([B)I"⟩
abbrev cJ2_charAt_3b067 : ByteArray := prog_13_method_83_code
def yJ2_charAt_3b067 : MethodName := ⟨RJ2, "charAt", "([BI)C"⟩
abbrev cJ2_checkIndex_2214a : ByteArray := prog_13_method_91_code
def yJ2_checkIndex_2214a : MethodName := ⟨RJ2, "checkIndex", "(I[B)V"⟩
def RJ10 : String := "java/lang/System"
def TJ10 : u_T := fun k => match k with
  | _ => ("", "", "", false)
def tyJ10 : Nat → FieldType := fun k => match k with
  | _ => .int
abbrev wsJ100 : List Cond := u_ws RJ10 TJ10 0
theorem nmJ10 : ∀ a, a < 0 → ∀ b, b < 0 → a ≠ b → (TJ10 a).2.1 ≠ (TJ10 b).2.1 := by decide +kernel
theorem tyJ10_ok : ∀ k, k < 0 → parseFieldDescriptor (TJ10 k).2.2.1 = some (tyJ10 k) := by decide +kernel
def RJ3 : String := "jdk/internal/util/Preconditions"
def TJ3 : u_T := fun k => match k with
  | _ => ("", "", "", false)
def tyJ3 : Nat → FieldType := fun k => match k with
  | _ => .int
abbrev wsJ30 : List Cond := u_ws RJ3 TJ3 0
theorem nmJ3 : ∀ a, a < 0 → ∀ b, b < 0 → a ≠ b → (TJ3 a).2.1 ≠ (TJ3 b).2.1 := by decide +kernel
theorem tyJ3_ok : ∀ k, k < 0 → parseFieldDescriptor (TJ3 k).2.2.1 = some (tyJ3 k) := by decide +kernel
abbrev cJ3_checkIndex_8e157 : ByteArray := prog_15_method_11_code
def yJ3_checkIndex_8e157 : MethodName := ⟨RJ3, "checkIndex", "(IILjava/util/function/BiFunction;)I"⟩
def RL : String := "NightWellsLaw"
abbrev cL_law : ByteArray := code
def yL_law : MethodName := ⟨RL, "law", "([I)Z"⟩
abbrev vwCl : List vw_C := [(RX0, TX0, 3), (RX1, TX1, 11), (RX2, TX2, 4), (RX3, TX3, 8), (RX4, TX4, 2), (RX5, TX5, 10), (RX6, TX6, 23)]
