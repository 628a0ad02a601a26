section
-- ===== PART A: goes FIRST, ahead of the names: the tables' words, and 'selects' of the private methods out of them =====
/-- a private method of a class that the tables say can be made, by its rows of tables_1 -/
def lw_okq (q : MethodName × Nat) : Prop := (q.1.cls ≠ "java/lang/invoke/MethodHandle" ∧ q.1.cls ≠ "java/lang/invoke/VarHandle") ∧ Cond.instantiable q.1.cls q.2 ∈ tables_1 ∧ Cond.privateMethod q.1 ∈ tables_1 ∧ Cond.instanceMethod q.1 ∈ tables_1
theorem lw_p0 : lw_okq (⟨"HedgeTreaties", "remember", "()V"⟩, 10) := ⟨⟨by decide +kernel, by decide +kernel⟩, List.mem_of_getElem? (i := 8) (by decide +kernel), List.mem_of_getElem? (i := 187) (by decide +kernel), List.mem_of_getElem? (i := 188) (by decide +kernel)⟩
theorem lw_p1 : lw_okq (⟨"HedgeTreaties", "dropOldestState", "()V"⟩, 10) := ⟨⟨by decide +kernel, by decide +kernel⟩, List.mem_of_getElem? (i := 8) (by decide +kernel), List.mem_of_getElem? (i := 191) (by decide +kernel), List.mem_of_getElem? (i := 192) (by decide +kernel)⟩
theorem lw_p2 : lw_okq (⟨"HedgeTreaties", "refuse", "(I)I"⟩, 10) := ⟨⟨by decide +kernel, by decide +kernel⟩, List.mem_of_getElem? (i := 8) (by decide +kernel), List.mem_of_getElem? (i := 215) (by decide +kernel), List.mem_of_getElem? (i := 216) (by decide +kernel)⟩
theorem lw_p3 : lw_okq (⟨"HedgeTreaties$Surveyor", "pressByTreaties", "(LHedgeTreaties$Street;Z)Z"⟩, 3) := ⟨⟨by decide +kernel, by decide +kernel⟩, List.mem_of_getElem? (i := 86) (by decide +kernel), List.mem_of_getElem? (i := 231) (by decide +kernel), List.mem_of_getElem? (i := 232) (by decide +kernel)⟩
theorem lw_p4 : lw_okq (⟨"HedgeTreaties$Surveyor", "press", "(III)Z"⟩, 3) := ⟨⟨by decide +kernel, by decide +kernel⟩, List.mem_of_getElem? (i := 86) (by decide +kernel), List.mem_of_getElem? (i := 239) (by decide +kernel), List.mem_of_getElem? (i := 240) (by decide +kernel)⟩
theorem lw_p5 : lw_okq (⟨"HedgeTreaties$Surveyor", "areLevelsAboveGround", "()Z"⟩, 3) := ⟨⟨by decide +kernel, by decide +kernel⟩, List.mem_of_getElem? (i := 86) (by decide +kernel), List.mem_of_getElem? (i := 243) (by decide +kernel), List.mem_of_getElem? (i := 244) (by decide +kernel)⟩
theorem lw_p6 : lw_okq (⟨"HedgeTreaties", "isNestInTheWay", "()Z"⟩, 10) := ⟨⟨by decide +kernel, by decide +kernel⟩, List.mem_of_getElem? (i := 8) (by decide +kernel), List.mem_of_getElem? (i := 247) (by decide +kernel), List.mem_of_getElem? (i := 248) (by decide +kernel)⟩
theorem lw_p7 : lw_okq (⟨"HedgeTreaties", "errorOfSigning", "(III)I"⟩, 10) := ⟨⟨by decide +kernel, by decide +kernel⟩, List.mem_of_getElem? (i := 8) (by decide +kernel), List.mem_of_getElem? (i := 286) (by decide +kernel), List.mem_of_getElem? (i := 287) (by decide +kernel)⟩
theorem lw_p8 : lw_okq (⟨"HedgeTreaties", "signOne", "(III)I"⟩, 10) := ⟨⟨by decide +kernel, by decide +kernel⟩, List.mem_of_getElem? (i := 8) (by decide +kernel), List.mem_of_getElem? (i := 293) (by decide +kernel), List.mem_of_getElem? (i := 294) (by decide +kernel)⟩
theorem lw_p9 : lw_okq (⟨"HedgeTreaties", "reasonAgainst", "(III)I"⟩, 10) := ⟨⟨by decide +kernel, by decide +kernel⟩, List.mem_of_getElem? (i := 8) (by decide +kernel), List.mem_of_getElem? (i := 297) (by decide +kernel), List.mem_of_getElem? (i := 298) (by decide +kernel)⟩
theorem lw_p10 : lw_okq (⟨"HedgeTreaties$Surveyor", "shortenSums", "(LHedgeTreaties$Street;I)Z"⟩, 3) := ⟨⟨by decide +kernel, by decide +kernel⟩, List.mem_of_getElem? (i := 86) (by decide +kernel), List.mem_of_getElem? (i := 310) (by decide +kernel), List.mem_of_getElem? (i := 311) (by decide +kernel)⟩
theorem lw_p11 : lw_okq (⟨"HedgeTreaties", "isTreaty", "(I)Z"⟩, 10) := ⟨⟨by decide +kernel, by decide +kernel⟩, List.mem_of_getElem? (i := 8) (by decide +kernel), List.mem_of_getElem? (i := 322) (by decide +kernel), List.mem_of_getElem? (i := 323) (by decide +kernel)⟩
theorem lw_p12 : lw_okq (⟨"HedgeTreaties$Pad", "placeBehind", "(II)I"⟩, 10) := ⟨⟨by decide +kernel, by decide +kernel⟩, List.mem_of_getElem? (i := 105) (by decide +kernel), List.mem_of_getElem? (i := 359) (by decide +kernel), List.mem_of_getElem? (i := 360) (by decide +kernel)⟩
theorem lw_p13 : lw_okq (⟨"HedgeTreaties$Pad", "startPart", "(I)I"⟩, 10) := ⟨⟨by decide +kernel, by decide +kernel⟩, List.mem_of_getElem? (i := 105) (by decide +kernel), List.mem_of_getElem? (i := 363) (by decide +kernel), List.mem_of_getElem? (i := 364) (by decide +kernel)⟩
theorem lw_p14 : lw_okq (⟨"HedgeTreaties$Pad", "takeOther", "(I)I"⟩, 10) := ⟨⟨by decide +kernel, by decide +kernel⟩, List.mem_of_getElem? (i := 105) (by decide +kernel), List.mem_of_getElem? (i := 370) (by decide +kernel), List.mem_of_getElem? (i := 371) (by decide +kernel)⟩
theorem lw_p15 : lw_okq (⟨"HedgeTreaties$Pad", "takeSign", "(I)I"⟩, 10) := ⟨⟨by decide +kernel, by decide +kernel⟩, List.mem_of_getElem? (i := 105) (by decide +kernel), List.mem_of_getElem? (i := 374) (by decide +kernel), List.mem_of_getElem? (i := 375) (by decide +kernel)⟩
def lw_privs_1 : List (MethodName × Nat) := [(⟨"HedgeTreaties", "remember", "()V"⟩, 10), (⟨"HedgeTreaties", "dropOldestState", "()V"⟩, 10), (⟨"HedgeTreaties", "refuse", "(I)I"⟩, 10), (⟨"HedgeTreaties$Surveyor", "pressByTreaties", "(LHedgeTreaties$Street;Z)Z"⟩, 3), (⟨"HedgeTreaties$Surveyor", "press", "(III)Z"⟩, 3), (⟨"HedgeTreaties$Surveyor", "areLevelsAboveGround", "()Z"⟩, 3), (⟨"HedgeTreaties", "isNestInTheWay", "()Z"⟩, 10), (⟨"HedgeTreaties", "errorOfSigning", "(III)I"⟩, 10), (⟨"HedgeTreaties", "signOne", "(III)I"⟩, 10), (⟨"HedgeTreaties", "reasonAgainst", "(III)I"⟩, 10), (⟨"HedgeTreaties$Surveyor", "shortenSums", "(LHedgeTreaties$Street;I)Z"⟩, 3), (⟨"HedgeTreaties", "isTreaty", "(I)Z"⟩, 10), (⟨"HedgeTreaties$Pad", "placeBehind", "(II)I"⟩, 10), (⟨"HedgeTreaties$Pad", "startPart", "(I)I"⟩, 10), (⟨"HedgeTreaties$Pad", "takeOther", "(I)I"⟩, 10), (⟨"HedgeTreaties$Pad", "takeSign", "(I)I"⟩, 10)]
theorem lw_r1 : ∀ q ∈ lw_privs_1, lw_okq q := List.forall_mem_cons.mpr ⟨lw_p0, List.forall_mem_cons.mpr ⟨lw_p1, List.forall_mem_cons.mpr ⟨lw_p2, List.forall_mem_cons.mpr ⟨lw_p3, List.forall_mem_cons.mpr ⟨lw_p4, List.forall_mem_cons.mpr ⟨lw_p5, List.forall_mem_cons.mpr ⟨lw_p6, List.forall_mem_cons.mpr ⟨lw_p7, List.forall_mem_cons.mpr ⟨lw_p8, List.forall_mem_cons.mpr ⟨lw_p9, List.forall_mem_cons.mpr ⟨lw_p10, List.forall_mem_cons.mpr ⟨lw_p11, List.forall_mem_cons.mpr ⟨lw_p12, List.forall_mem_cons.mpr ⟨lw_p13, List.forall_mem_cons.mpr ⟨lw_p14, List.forall_mem_cons.mpr ⟨lw_p15, fun _ h => absurd h List.not_mem_nil⟩⟩⟩⟩⟩⟩⟩⟩⟩⟩⟩⟩⟩⟩⟩⟩
theorem lw_p16 : lw_okq (⟨"HedgeTreaties$Pad", "startNumber", "(II)I"⟩, 10) := ⟨⟨by decide +kernel, by decide +kernel⟩, List.mem_of_getElem? (i := 105) (by decide +kernel), List.mem_of_getElem? (i := 378) (by decide +kernel), List.mem_of_getElem? (i := 379) (by decide +kernel)⟩
theorem lw_p17 : lw_okq (⟨"HedgeTreaties$Pad", "takeDigit", "(I)I"⟩, 10) := ⟨⟨by decide +kernel, by decide +kernel⟩, List.mem_of_getElem? (i := 105) (by decide +kernel), List.mem_of_getElem? (i := 382) (by decide +kernel), List.mem_of_getElem? (i := 383) (by decide +kernel)⟩
theorem lw_p18 : lw_okq (⟨"HedgeTreaties", "signPart", "(I)I"⟩, 10) := ⟨⟨by decide +kernel, by decide +kernel⟩, List.mem_of_getElem? (i := 8) (by decide +kernel), List.mem_of_getElem? (i := 390) (by decide +kernel), List.mem_of_getElem? (i := 391) (by decide +kernel)⟩
theorem lw_p19 : lw_okq (⟨"HedgeTreaties", "isNothingNewBesideOthers", "(I)Z"⟩, 10) := ⟨⟨by decide +kernel, by decide +kernel⟩, List.mem_of_getElem? (i := 8) (by decide +kernel), List.mem_of_getElem? (i := 412) (by decide +kernel), List.mem_of_getElem? (i := 413) (by decide +kernel)⟩
theorem lw_p20 : lw_okq (⟨"HedgeTreaties$Surveyor", "findPairs", "(LHedgeTreaties$Street;)V"⟩, 3) := ⟨⟨by decide +kernel, by decide +kernel⟩, List.mem_of_getElem? (i := 86) (by decide +kernel), List.mem_of_getElem? (i := 424) (by decide +kernel), List.mem_of_getElem? (i := 425) (by decide +kernel)⟩
theorem lw_p21 : lw_okq (⟨"HedgeTreaties$Surveyor", "startPairs", "(LHedgeTreaties$Street;)V"⟩, 3) := ⟨⟨by decide +kernel, by decide +kernel⟩, List.mem_of_getElem? (i := 86) (by decide +kernel), List.mem_of_getElem? (i := 428) (by decide +kernel), List.mem_of_getElem? (i := 429) (by decide +kernel)⟩
theorem lw_p22 : lw_okq (⟨"HedgeTreaties$Surveyor", "joinPair", "(III)V"⟩, 3) := ⟨⟨by decide +kernel, by decide +kernel⟩, List.mem_of_getElem? (i := 86) (by decide +kernel), List.mem_of_getElem? (i := 433) (by decide +kernel), List.mem_of_getElem? (i := 434) (by decide +kernel)⟩
theorem lw_p23 : lw_okq (⟨"HedgeTreatiesModel", "lays", "(III)V"⟩, 17) := ⟨⟨by decide +kernel, by decide +kernel⟩, List.mem_of_getElem? (i := 494) (by decide +kernel), List.mem_of_getElem? (i := 500) (by decide +kernel), List.mem_of_getElem? (i := 501) (by decide +kernel)⟩
theorem lw_p24 : lw_okq (⟨"HedgeTreatiesModel", "records", "()V"⟩, 17) := ⟨⟨by decide +kernel, by decide +kernel⟩, List.mem_of_getElem? (i := 494) (by decide +kernel), List.mem_of_getElem? (i := 566) (by decide +kernel), List.mem_of_getElem? (i := 567) (by decide +kernel)⟩
theorem lw_p25 : lw_okq (⟨"HedgeTreatiesModel", "of", "(II)I"⟩, 17) := ⟨⟨by decide +kernel, by decide +kernel⟩, List.mem_of_getElem? (i := 494) (by decide +kernel), List.mem_of_getElem? (i := 573) (by decide +kernel), List.mem_of_getElem? (i := 574) (by decide +kernel)⟩
theorem lw_p26 : lw_okq (⟨"HedgeTreatiesModel", "isNested", "(I)Z"⟩, 17) := ⟨⟨by decide +kernel, by decide +kernel⟩, List.mem_of_getElem? (i := 494) (by decide +kernel), List.mem_of_getElem? (i := 589) (by decide +kernel), List.mem_of_getElem? (i := 590) (by decide +kernel)⟩
theorem lw_p27 : lw_okq (⟨"HedgeTreatiesModel", "refuses", "(I)I"⟩, 17) := ⟨⟨by decide +kernel, by decide +kernel⟩, List.mem_of_getElem? (i := 494) (by decide +kernel), List.mem_of_getElem? (i := 593) (by decide +kernel), List.mem_of_getElem? (i := 594) (by decide +kernel)⟩
theorem lw_p28 : lw_okq (⟨"HedgeTreatiesModel", "clips", "(II)V"⟩, 17) := ⟨⟨by decide +kernel, by decide +kernel⟩, List.mem_of_getElem? (i := 494) (by decide +kernel), List.mem_of_getElem? (i := 597) (by decide +kernel), List.mem_of_getElem? (i := 598) (by decide +kernel)⟩
theorem lw_p29 : lw_okq (⟨"HedgeTreatiesModel", "goPlan", "()I"⟩, 17) := ⟨⟨by decide +kernel, by decide +kernel⟩, List.mem_of_getElem? (i := 494) (by decide +kernel), List.mem_of_getElem? (i := 605) (by decide +kernel), List.mem_of_getElem? (i := 606) (by decide +kernel)⟩
theorem lw_p30 : lw_okq (⟨"HedgeTreatiesModel", "hasLeast", "()Z"⟩, 17) := ⟨⟨by decide +kernel, by decide +kernel⟩, List.mem_of_getElem? (i := 494) (by decide +kernel), List.mem_of_getElem? (i := 609) (by decide +kernel), List.mem_of_getElem? (i := 610) (by decide +kernel)⟩
theorem lw_p31 : lw_okq (⟨"HedgeTreatiesModel", "settles", "(Z)Z"⟩, 17) := ⟨⟨by decide +kernel, by decide +kernel⟩, List.mem_of_getElem? (i := 494) (by decide +kernel), List.mem_of_getElem? (i := 613) (by decide +kernel), List.mem_of_getElem? (i := 614) (by decide +kernel)⟩
def lw_privs_2 : List (MethodName × Nat) := [(⟨"HedgeTreaties$Pad", "startNumber", "(II)I"⟩, 10), (⟨"HedgeTreaties$Pad", "takeDigit", "(I)I"⟩, 10), (⟨"HedgeTreaties", "signPart", "(I)I"⟩, 10), (⟨"HedgeTreaties", "isNothingNewBesideOthers", "(I)Z"⟩, 10), (⟨"HedgeTreaties$Surveyor", "findPairs", "(LHedgeTreaties$Street;)V"⟩, 3), (⟨"HedgeTreaties$Surveyor", "startPairs", "(LHedgeTreaties$Street;)V"⟩, 3), (⟨"HedgeTreaties$Surveyor", "joinPair", "(III)V"⟩, 3), (⟨"HedgeTreatiesModel", "lays", "(III)V"⟩, 17), (⟨"HedgeTreatiesModel", "records", "()V"⟩, 17), (⟨"HedgeTreatiesModel", "of", "(II)I"⟩, 17), (⟨"HedgeTreatiesModel", "isNested", "(I)Z"⟩, 17), (⟨"HedgeTreatiesModel", "refuses", "(I)I"⟩, 17), (⟨"HedgeTreatiesModel", "clips", "(II)V"⟩, 17), (⟨"HedgeTreatiesModel", "goPlan", "()I"⟩, 17), (⟨"HedgeTreatiesModel", "hasLeast", "()Z"⟩, 17), (⟨"HedgeTreatiesModel", "settles", "(Z)Z"⟩, 17)]
theorem lw_r2 : ∀ q ∈ lw_privs_2, lw_okq q := List.forall_mem_cons.mpr ⟨lw_p16, List.forall_mem_cons.mpr ⟨lw_p17, List.forall_mem_cons.mpr ⟨lw_p18, List.forall_mem_cons.mpr ⟨lw_p19, List.forall_mem_cons.mpr ⟨lw_p20, List.forall_mem_cons.mpr ⟨lw_p21, List.forall_mem_cons.mpr ⟨lw_p22, List.forall_mem_cons.mpr ⟨lw_p23, List.forall_mem_cons.mpr ⟨lw_p24, List.forall_mem_cons.mpr ⟨lw_p25, List.forall_mem_cons.mpr ⟨lw_p26, List.forall_mem_cons.mpr ⟨lw_p27, List.forall_mem_cons.mpr ⟨lw_p28, List.forall_mem_cons.mpr ⟨lw_p29, List.forall_mem_cons.mpr ⟨lw_p30, List.forall_mem_cons.mpr ⟨lw_p31, fun _ h => absurd h List.not_mem_nil⟩⟩⟩⟩⟩⟩⟩⟩⟩⟩⟩⟩⟩⟩⟩⟩
theorem lw_p32 : lw_okq (⟨"HedgeTreatiesModel", "areTall", "()Z"⟩, 17) := ⟨⟨by decide +kernel, by decide +kernel⟩, List.mem_of_getElem? (i := 494) (by decide +kernel), List.mem_of_getElem? (i := 617) (by decide +kernel), List.mem_of_getElem? (i := 618) (by decide +kernel)⟩
theorem lw_p33 : lw_okq (⟨"HedgeTreatiesModel", "isForce", "(I)Z"⟩, 17) := ⟨⟨by decide +kernel, by decide +kernel⟩, List.mem_of_getElem? (i := 494) (by decide +kernel), List.mem_of_getElem? (i := 621) (by decide +kernel), List.mem_of_getElem? (i := 622) (by decide +kernel)⟩
theorem lw_p34 : lw_okq (⟨"HedgeTreatiesModel", "ofTreaty", "(II)I"⟩, 17) := ⟨⟨by decide +kernel, by decide +kernel⟩, List.mem_of_getElem? (i := 494) (by decide +kernel), List.mem_of_getElem? (i := 625) (by decide +kernel), List.mem_of_getElem? (i := 626) (by decide +kernel)⟩
theorem lw_p35 : lw_okq (⟨"HedgeTreatiesModel", "lowers", "(III)Z"⟩, 17) := ⟨⟨by decide +kernel, by decide +kernel⟩, List.mem_of_getElem? (i := 494) (by decide +kernel), List.mem_of_getElem? (i := 629) (by decide +kernel), List.mem_of_getElem? (i := 630) (by decide +kernel)⟩
theorem lw_p36 : lw_okq (⟨"HedgeTreatiesModel", "goDay", "()V"⟩, 17) := ⟨⟨by decide +kernel, by decide +kernel⟩, List.mem_of_getElem? (i := 494) (by decide +kernel), List.mem_of_getElem? (i := 637) (by decide +kernel), List.mem_of_getElem? (i := 638) (by decide +kernel)⟩
theorem lw_p37 : lw_okq (⟨"HedgeTreatiesModel", "brokenOnes", "()I"⟩, 17) := ⟨⟨by decide +kernel, by decide +kernel⟩, List.mem_of_getElem? (i := 494) (by decide +kernel), List.mem_of_getElem? (i := 641) (by decide +kernel), List.mem_of_getElem? (i := 642) (by decide +kernel)⟩
theorem lw_p38 : lw_okq (⟨"HedgeTreatiesModel", "isBroken", "(I)Z"⟩, 17) := ⟨⟨by decide +kernel, by decide +kernel⟩, List.mem_of_getElem? (i := 494) (by decide +kernel), List.mem_of_getElem? (i := 645) (by decide +kernel), List.mem_of_getElem? (i := 646) (by decide +kernel)⟩
theorem lw_p39 : lw_okq (⟨"HedgeTreatiesModel", "slackOf", "(I)I"⟩, 17) := ⟨⟨by decide +kernel, by decide +kernel⟩, List.mem_of_getElem? (i := 494) (by decide +kernel), List.mem_of_getElem? (i := 649) (by decide +kernel), List.mem_of_getElem? (i := 650) (by decide +kernel)⟩
theorem lw_p40 : lw_okq (⟨"HedgeTreatiesModel", "errorOfSign", "(III)I"⟩, 17) := ⟨⟨by decide +kernel, by decide +kernel⟩, List.mem_of_getElem? (i := 494) (by decide +kernel), List.mem_of_getElem? (i := 657) (by decide +kernel), List.mem_of_getElem? (i := 658) (by decide +kernel)⟩
theorem lw_p41 : lw_okq (⟨"HedgeTreatiesModel", "goSign", "(III)I"⟩, 17) := ⟨⟨by decide +kernel, by decide +kernel⟩, List.mem_of_getElem? (i := 494) (by decide +kernel), List.mem_of_getElem? (i := 664) (by decide +kernel), List.mem_of_getElem? (i := 665) (by decide +kernel)⟩
theorem lw_p42 : lw_okq (⟨"HedgeTreatiesModel", "reasonToSign", "(III)I"⟩, 17) := ⟨⟨by decide +kernel, by decide +kernel⟩, List.mem_of_getElem? (i := 494) (by decide +kernel), List.mem_of_getElem? (i := 668) (by decide +kernel), List.mem_of_getElem? (i := 669) (by decide +kernel)⟩
theorem lw_p43 : lw_okq (⟨"HedgeTreatiesModel", "isPossible", "(III)Z"⟩, 17) := ⟨⟨by decide +kernel, by decide +kernel⟩, List.mem_of_getElem? (i := 494) (by decide +kernel), List.mem_of_getElem? (i := 672) (by decide +kernel), List.mem_of_getElem? (i := 673) (by decide +kernel)⟩
theorem lw_p44 : lw_okq (⟨"HedgeTreatiesModel", "boundBut", "(III)I"⟩, 17) := ⟨⟨by decide +kernel, by decide +kernel⟩, List.mem_of_getElem? (i := 494) (by decide +kernel), List.mem_of_getElem? (i := 676) (by decide +kernel), List.mem_of_getElem? (i := 677) (by decide +kernel)⟩
theorem lw_p45 : lw_okq (⟨"HedgeTreatiesModel", "laysTreaty", "(III)V"⟩, 17) := ⟨⟨by decide +kernel, by decide +kernel⟩, List.mem_of_getElem? (i := 494) (by decide +kernel), List.mem_of_getElem? (i := 681) (by decide +kernel), List.mem_of_getElem? (i := 682) (by decide +kernel)⟩
theorem lw_p46 : lw_okq (⟨"HedgeTreatiesModel", "isTreaty", "(I)Z"⟩, 17) := ⟨⟨by decide +kernel, by decide +kernel⟩, List.mem_of_getElem? (i := 494) (by decide +kernel), List.mem_of_getElem? (i := 689) (by decide +kernel), List.mem_of_getElem? (i := 690) (by decide +kernel)⟩
theorem lw_p47 : lw_okq (⟨"HedgeTreatiesModel", "isText", "()Z"⟩, 17) := ⟨⟨by decide +kernel, by decide +kernel⟩, List.mem_of_getElem? (i := 494) (by decide +kernel), List.mem_of_getElem? (i := 713) (by decide +kernel), List.mem_of_getElem? (i := 714) (by decide +kernel)⟩
def lw_privs_3 : List (MethodName × Nat) := [(⟨"HedgeTreatiesModel", "areTall", "()Z"⟩, 17), (⟨"HedgeTreatiesModel", "isForce", "(I)Z"⟩, 17), (⟨"HedgeTreatiesModel", "ofTreaty", "(II)I"⟩, 17), (⟨"HedgeTreatiesModel", "lowers", "(III)Z"⟩, 17), (⟨"HedgeTreatiesModel", "goDay", "()V"⟩, 17), (⟨"HedgeTreatiesModel", "brokenOnes", "()I"⟩, 17), (⟨"HedgeTreatiesModel", "isBroken", "(I)Z"⟩, 17), (⟨"HedgeTreatiesModel", "slackOf", "(I)I"⟩, 17), (⟨"HedgeTreatiesModel", "errorOfSign", "(III)I"⟩, 17), (⟨"HedgeTreatiesModel", "goSign", "(III)I"⟩, 17), (⟨"HedgeTreatiesModel", "reasonToSign", "(III)I"⟩, 17), (⟨"HedgeTreatiesModel", "isPossible", "(III)Z"⟩, 17), (⟨"HedgeTreatiesModel", "boundBut", "(III)I"⟩, 17), (⟨"HedgeTreatiesModel", "laysTreaty", "(III)V"⟩, 17), (⟨"HedgeTreatiesModel", "isTreaty", "(I)Z"⟩, 17), (⟨"HedgeTreatiesModel", "isText", "()Z"⟩, 17)]
theorem lw_r3 : ∀ q ∈ lw_privs_3, lw_okq q := List.forall_mem_cons.mpr ⟨lw_p32, List.forall_mem_cons.mpr ⟨lw_p33, List.forall_mem_cons.mpr ⟨lw_p34, List.forall_mem_cons.mpr ⟨lw_p35, List.forall_mem_cons.mpr ⟨lw_p36, List.forall_mem_cons.mpr ⟨lw_p37, List.forall_mem_cons.mpr ⟨lw_p38, List.forall_mem_cons.mpr ⟨lw_p39, List.forall_mem_cons.mpr ⟨lw_p40, List.forall_mem_cons.mpr ⟨lw_p41, List.forall_mem_cons.mpr ⟨lw_p42, List.forall_mem_cons.mpr ⟨lw_p43, List.forall_mem_cons.mpr ⟨lw_p44, List.forall_mem_cons.mpr ⟨lw_p45, List.forall_mem_cons.mpr ⟨lw_p46, List.forall_mem_cons.mpr ⟨lw_p47, fun _ h => absurd h List.not_mem_nil⟩⟩⟩⟩⟩⟩⟩⟩⟩⟩⟩⟩⟩⟩⟩⟩
theorem lw_p48 : lw_okq (⟨"HedgeTreatiesModel", "takesPart", "()V"⟩, 17) := ⟨⟨by decide +kernel, by decide +kernel⟩, List.mem_of_getElem? (i := 494) (by decide +kernel), List.mem_of_getElem? (i := 717) (by decide +kernel), List.mem_of_getElem? (i := 718) (by decide +kernel)⟩
theorem lw_p49 : lw_okq (⟨"HedgeTreatiesModel", "takesDigit", "(II)I"⟩, 17) := ⟨⟨by decide +kernel, by decide +kernel⟩, List.mem_of_getElem? (i := 494) (by decide +kernel), List.mem_of_getElem? (i := 721) (by decide +kernel), List.mem_of_getElem? (i := 722) (by decide +kernel)⟩
theorem lw_p50 : lw_okq (⟨"HedgeTreatiesModel", "here", "()I"⟩, 17) := ⟨⟨by decide +kernel, by decide +kernel⟩, List.mem_of_getElem? (i := 494) (by decide +kernel), List.mem_of_getElem? (i := 725) (by decide +kernel), List.mem_of_getElem? (i := 726) (by decide +kernel)⟩
theorem lw_p51 : lw_okq (⟨"HedgeTreatiesModel", "takes", "(Z)V"⟩, 17) := ⟨⟨by decide +kernel, by decide +kernel⟩, List.mem_of_getElem? (i := 494) (by decide +kernel), List.mem_of_getElem? (i := 729) (by decide +kernel), List.mem_of_getElem? (i := 730) (by decide +kernel)⟩
theorem lw_p52 : lw_okq (⟨"HedgeTreatiesModel", "takesNumber", "(I)I"⟩, 17) := ⟨⟨by decide +kernel, by decide +kernel⟩, List.mem_of_getElem? (i := 494) (by decide +kernel), List.mem_of_getElem? (i := 733) (by decide +kernel), List.mem_of_getElem? (i := 734) (by decide +kernel)⟩
theorem lw_p53 : lw_okq (⟨"HedgeTreatiesModel", "brokenAbout", "(I)I"⟩, 17) := ⟨⟨by decide +kernel, by decide +kernel⟩, List.mem_of_getElem? (i := 494) (by decide +kernel), List.mem_of_getElem? (i := 749) (by decide +kernel), List.mem_of_getElem? (i := 750) (by decide +kernel)⟩
theorem lw_p54 : lw_okq (⟨"HedgeTreatiesModel", "isAbout", "(II)Z"⟩, 17) := ⟨⟨by decide +kernel, by decide +kernel⟩, List.mem_of_getElem? (i := 494) (by decide +kernel), List.mem_of_getElem? (i := 753) (by decide +kernel), List.mem_of_getElem? (i := 754) (by decide +kernel)⟩
theorem lw_p55 : lw_okq (⟨"HedgeTreatiesModel", "forceAbout", "(I)I"⟩, 17) := ⟨⟨by decide +kernel, by decide +kernel⟩, List.mem_of_getElem? (i := 494) (by decide +kernel), List.mem_of_getElem? (i := 757) (by decide +kernel), List.mem_of_getElem? (i := 758) (by decide +kernel)⟩
theorem lw_p56 : lw_okq (⟨"HedgeTreatiesModel", "saysNothing", "(I)Z"⟩, 17) := ⟨⟨by decide +kernel, by decide +kernel⟩, List.mem_of_getElem? (i := 494) (by decide +kernel), List.mem_of_getElem? (i := 765) (by decide +kernel), List.mem_of_getElem? (i := 766) (by decide +kernel)⟩
theorem lw_p57 : lw_okq (⟨"HedgeTreatiesModel", "boundOf", "(II)I"⟩, 17) := ⟨⟨by decide +kernel, by decide +kernel⟩, List.mem_of_getElem? (i := 494) (by decide +kernel), List.mem_of_getElem? (i := 773) (by decide +kernel), List.mem_of_getElem? (i := 774) (by decide +kernel)⟩
theorem lw_p58 : lw_okq (⟨"HedgeTreatiesModel", "clippingNow", "()I"⟩, 17) := ⟨⟨by decide +kernel, by decide +kernel⟩, List.mem_of_getElem? (i := 494) (by decide +kernel), List.mem_of_getElem? (i := 785) (by decide +kernel), List.mem_of_getElem? (i := 786) (by decide +kernel)⟩
theorem lw_p59 : lw_okq (⟨"HedgeTreatiesModel", "inForce", "()I"⟩, 17) := ⟨⟨by decide +kernel, by decide +kernel⟩, List.mem_of_getElem? (i := 494) (by decide +kernel), List.mem_of_getElem? (i := 793) (by decide +kernel), List.mem_of_getElem? (i := 794) (by decide +kernel)⟩
theorem lw_p60 : lw_okq (⟨"HedgeTreatiesModel", "allHeights", "()I"⟩, 17) := ⟨⟨by decide +kernel, by decide +kernel⟩, List.mem_of_getElem? (i := 494) (by decide +kernel), List.mem_of_getElem? (i := 797) (by decide +kernel), List.mem_of_getElem? (i := 798) (by decide +kernel)⟩
theorem lw_p61 : lw_okq (⟨"HedgeTreatiesModel", "nested", "()I"⟩, 17) := ⟨⟨by decide +kernel, by decide +kernel⟩, List.mem_of_getElem? (i := 494) (by decide +kernel), List.mem_of_getElem? (i := 801) (by decide +kernel), List.mem_of_getElem? (i := 802) (by decide +kernel)⟩
def lw_privs_4 : List (MethodName × Nat) := [(⟨"HedgeTreatiesModel", "takesPart", "()V"⟩, 17), (⟨"HedgeTreatiesModel", "takesDigit", "(II)I"⟩, 17), (⟨"HedgeTreatiesModel", "here", "()I"⟩, 17), (⟨"HedgeTreatiesModel", "takes", "(Z)V"⟩, 17), (⟨"HedgeTreatiesModel", "takesNumber", "(I)I"⟩, 17), (⟨"HedgeTreatiesModel", "brokenAbout", "(I)I"⟩, 17), (⟨"HedgeTreatiesModel", "isAbout", "(II)Z"⟩, 17), (⟨"HedgeTreatiesModel", "forceAbout", "(I)I"⟩, 17), (⟨"HedgeTreatiesModel", "saysNothing", "(I)Z"⟩, 17), (⟨"HedgeTreatiesModel", "boundOf", "(II)I"⟩, 17), (⟨"HedgeTreatiesModel", "clippingNow", "()I"⟩, 17), (⟨"HedgeTreatiesModel", "inForce", "()I"⟩, 17), (⟨"HedgeTreatiesModel", "allHeights", "()I"⟩, 17), (⟨"HedgeTreatiesModel", "nested", "()I"⟩, 17)]
theorem lw_r4 : ∀ q ∈ lw_privs_4, lw_okq q := List.forall_mem_cons.mpr ⟨lw_p48, List.forall_mem_cons.mpr ⟨lw_p49, List.forall_mem_cons.mpr ⟨lw_p50, List.forall_mem_cons.mpr ⟨lw_p51, List.forall_mem_cons.mpr ⟨lw_p52, List.forall_mem_cons.mpr ⟨lw_p53, List.forall_mem_cons.mpr ⟨lw_p54, List.forall_mem_cons.mpr ⟨lw_p55, List.forall_mem_cons.mpr ⟨lw_p56, List.forall_mem_cons.mpr ⟨lw_p57, List.forall_mem_cons.mpr ⟨lw_p58, List.forall_mem_cons.mpr ⟨lw_p59, List.forall_mem_cons.mpr ⟨lw_p60, List.forall_mem_cons.mpr ⟨lw_p61, fun _ h => absurd h List.not_mem_nil⟩⟩⟩⟩⟩⟩⟩⟩⟩⟩⟩⟩⟩⟩
def lw_privs : List (MethodName × Nat) := lw_privs_1 ++ (lw_privs_2 ++ (lw_privs_3 ++ (lw_privs_4)))
def lw_tbl : List Cond := k2_sels lw_privs ++ tables_1
theorem lw_privs_ok : ∀ q ∈ lw_privs, lw_okq q := by
  show ∀ q ∈ lw_privs_1 ++ (lw_privs_2 ++ (lw_privs_3 ++ (lw_privs_4))), lw_okq q
  exact List.forall_mem_append.mpr ⟨lw_r1, List.forall_mem_append.mpr ⟨lw_r2, List.forall_mem_append.mpr ⟨lw_r3, lw_r4⟩⟩⟩
/-- the streams that the claim lets the run draw from -/
abbrev lw_cs : List Choice := [Jvm.Choice.named "NaN.bits"]
theorem lw_bits : nanBits ∈ lw_cs := by first | decide | exact List.mem_cons_self | simp [lw_cs, nanBits]
end
section
/-! ===== BEGIN words of one list among another's, by their places ===== -/
theorem goodIn_r {big : List Cond} (ws : List Cond) (ps : List Nat) (hp : ws = ps.filterMap (fun i => big[i]?)) (h : ws.all goodWord = true) : GoodIn big ws := by
  intro w hw
  have h1 := List.all_eq_true.mp h w hw
  rw [hp] at hw
  obtain ⟨i, -, hi⟩ := List.mem_filterMap.mp hw
  have hm : w ∈ big := by first | exact List.mem_of_getElem? hi | exact List.getElem?_mem hi
  exact ⟨hm, good_of_word h1⟩
theorem goodIn_app {big a b : List Cond} (ha : GoodIn big a) (hb : GoodIn big b) : GoodIn big (a ++ b) := fun w h => (List.mem_append.mp h).elim (ha w) (hb w)
theorem goodIn_ca {big a b : List Cond} {c : Cond} (ha : GoodIn big (c :: a)) (hb : GoodIn big b) : GoodIn big (c :: (a ++ b)) := fun w h => (List.mem_cons.mp h).elim (fun e => ha w (List.mem_cons.mpr (Or.inl e))) (fun h => (List.mem_append.mp h).elim (fun h => ha w (List.mem_cons.mpr (Or.inr h))) (hb w))
theorem goodIn_sub {big ws : List Cond} (hm : ∀ w ∈ ws, w ∈ big) (h : ws.all goodWord = true) : GoodIn big ws := fun w hw => ⟨hm w hw, good_of_word (List.all_eq_true.mp h w hw)⟩
/-! ===== END ===== -/

/-! ===== BEGIN new T[n][m]: the outer array a place, the inner ones among the pooled ===== -/
/-- f, but v at every address of l -/
def vr_up {α : Type} (f : Nat → α) (l : List Nat) (v : α) : Nat → α := fun a => if a ∈ l then v else f a
theorem vr_up_in {α : Type} {f : Nat → α} {l : List Nat} {v : α} {a : Nat} (h : a ∈ l) : vr_up f l v a = v := if_pos h
theorem vr_up_ne {α : Type} {f : Nat → α} {l : List Nat} {v : α} {a : Nat} (h : a ∉ l) : vr_up f l v a = f a := if_neg h
theorem vr_rows {L l : List Nat} {f : Nat → va_E} {e : va_E} (h : ∀ a, a ∈ l → a ∉ L) : va_pl L f ++ l.map (fun a => (a, e)) = va_pl (L ++ l) (vr_up f l e) := by
  unfold va_pl
  rw [List.map_append]
  congr 1
  · apply List.map_congr_left
    intro a ha
    rw [vr_up_ne (fun q => h a q ha)]
  · apply List.map_congr_left
    intro a ha
    rw [vr_up_in ha]
theorem vr_lay {X rows : va_W} {x : Nat × va_E} {pl : va_W} {D : va_G} {cl : List vw_C} {H : Heap} (hP : va_P D cl (((X ++ pl) ++ [x]) ++ rows) H) : va_P D cl ((X ++ [x]) ++ (pl ++ rows)) H := by
  rw [List.append_assoc (X ++ pl)] at hP
  have h := va_P.swap hP
  rw [← List.append_assoc X] at h
  have h2 := va_P.swap h
  rw [List.append_assoc (X ++ [x])] at h2
  exact h2
theorem vr_layD {X rows : va_W} {x : Nat × va_E} {pl : va_W} {A : Nat → Prop} (hD : va_D A (((X ++ pl) ++ [x]) ++ rows)) : va_D A ((X ++ [x]) ++ (pl ++ rows)) := by
  rw [List.append_assoc (X ++ pl)] at hD
  have h := va_D.swap hD
  rw [← List.append_assoc X] at h
  have h2 := va_D.swap h
  rw [List.append_assoc (X ++ [x])] at h2
  exact h2
theorem vr_outer (c : ClassId) (N h0 : Nat) : ∀ i : Nat, Jvm.Free.Multi.outerC c N h0 i = arrV c N (fun j => va_rf (if j < i then some (h0 + 1 + j) else none))
  | 0 => by
    show ({ cls := c, slots := Array.replicate N .null, vm := .none } : Cell) = _
    rw [arrV_new]
    refine congrArg (arrV c N) (funext fun j => ?_)
    simp [va_rf]
  | i + 1 => by
    show (Jvm.Free.Multi.outerC c N h0 i).setSlot i (.ref (h0 + 1 + i)) = _
    rw [vr_outer c N h0 i, arrV_store]
    refine congrArg (arrV c N) (funext fun j => ?_)
    by_cases e : j = i
    · subst e
      simp [updV, va_rf]
    · by_cases h : j < i
      · simp [updV, e, h, Nat.lt_succ_of_lt h]
      · simp [updV, e, h, show ¬ j < i + 1 by omega]
/-! ===== END ===== -/
/-! ===== BEGIN printed: names, fields, word lists, decode rows ===== -/
def RX0 : String := "HedgeTreaties$Pad"
def TX0 : u_T := fun k => match k with
  | 0 => ("HedgeTreaties$Pad", "codes", "[I", true)
  | 1 => ("HedgeTreaties$Pad", "length", "I", false)
  | 2 => ("HedgeTreaties$Pad", "positions", "[I", true)
  | 3 => ("HedgeTreaties$Pad", "firsts", "[I", true)
  | 4 => ("HedgeTreaties$Pad", "others", "[I", true)
  | 5 => ("HedgeTreaties$Pad", "ds", "[I", true)
  | 6 => ("HedgeTreaties$Pad", "parts", "I", false)
  | 7 => ("HedgeTreaties$Pad", "sign", "I", false)
  | 8 => ("HedgeTreaties$Pad", "number", "I", false)
  | _ => ("HedgeTreaties$Pad", "mostNumber", "I", false)
def tyX0 : Nat → FieldType := fun k => match k with
  | 0 => .array .int
  | 1 => .int
  | 2 => .array .int
  | 3 => .array .int
  | 4 => .array .int
  | 5 => .array .int
  | 6 => .int
  | 7 => .int
  | 8 => .int
  | _ => .int
abbrev wsX00 : List Cond := u_ws RX0 TX0 10
theorem nmX0 : ∀ a, a < 10 → ∀ b, b < 10 → a ≠ b → (TX0 a).2.1 ≠ (TX0 b).2.1 := by decide +kernel
theorem tyX0_ok : ∀ k, k < 10 → parseFieldDescriptor (TX0 k).2.2.1 = some (tyX0 k) := by decide +kernel
abbrev cX0_init : ByteArray := prog_2_method_1_code
def yX0_init : MethodName := ⟨RX0, "<init>", "()V"⟩
abbrev cX0_read : ByteArray := prog_2_method_2_code
def yX0_read : MethodName := ⟨RX0, "read", "()I"⟩
abbrev cX0_placeBehind : ByteArray := prog_2_method_3_code
def yX0_placeBehind : MethodName := ⟨RX0, "placeBehind", "(II)I"⟩
abbrev cX0_isDigit : ByteArray := prog_2_method_4_code
def yX0_isDigit : MethodName := ⟨RX0, "isDigit", "(II)Z"⟩
abbrev cX0_startPart : ByteArray := prog_2_method_5_code
def yX0_startPart : MethodName := ⟨RX0, "startPart", "(I)I"⟩
abbrev cX0_takeOther : ByteArray := prog_2_method_6_code
def yX0_takeOther : MethodName := ⟨RX0, "takeOther", "(I)I"⟩
abbrev cX0_takeSign : ByteArray := prog_2_method_7_code
def yX0_takeSign : MethodName := ⟨RX0, "takeSign", "(I)I"⟩
abbrev cX0_startNumber : ByteArray := prog_2_method_8_code
def yX0_startNumber : MethodName := ⟨RX0, "startNumber", "(II)I"⟩
abbrev cX0_takeDigit : ByteArray := prog_2_method_9_code
def yX0_takeDigit : MethodName := ⟨RX0, "takeDigit", "(I)I"⟩
def RX1 : String := "HedgeTreaties$Street"
def TX1 : u_T := fun k => match k with
  | 0 => ("HedgeTreaties$Street", "heights", "[I", true)
  | 1 => ("HedgeTreaties$Street", "growths", "[I", true)
  | 2 => ("HedgeTreaties$Street", "nestedUntil", "[I", true)
  | 3 => ("HedgeTreaties$Street", "clippedOff", "[I", true)
  | 4 => ("HedgeTreaties$Street", "firsts", "[I", true)
  | 5 => ("HedgeTreaties$Street", "others", "[I", true)
  | 6 => ("HedgeTreaties$Street", "ds", "[I", true)
  | 7 => ("HedgeTreaties$Street", "frozenUntil", "[I", true)
  | 8 => ("HedgeTreaties$Street", "treaties", "I", false)
  | 9 => ("HedgeTreaties$Street", "today", "I", false)
  | 10 => ("HedgeTreaties$Street", "cakes", "I", false)
  | 11 => ("HedgeTreaties$Street", "signedSoFar", "I", false)
  | 12 => ("HedgeTreaties$Street", "refusedSoFar", "I", false)
  | _ => ("HedgeTreaties$Street", "clipsSoFar", "I", false)
def tyX1 : Nat → FieldType := fun k => match k with
  | 0 => .array .int
  | 1 => .array .int
  | 2 => .array .int
  | 3 => .array .int
  | 4 => .array .int
  | 5 => .array .int
  | 6 => .array .int
  | 7 => .array .int
  | 8 => .int
  | 9 => .int
  | 10 => .int
  | 11 => .int
  | 12 => .int
  | _ => .int
abbrev wsX10 : List Cond := u_ws RX1 TX1 14
theorem nmX1 : ∀ a, a < 14 → ∀ b, b < 14 → a ≠ b → (TX1 a).2.1 ≠ (TX1 b).2.1 := by decide +kernel
theorem tyX1_ok : ∀ k, k < 14 → parseFieldDescriptor (TX1 k).2.2.1 = some (tyX1 k) := by decide +kernel
abbrev cX1_init : ByteArray := prog_3_method_1_code
def yX1_init : MethodName := ⟨RX1, "<init>", "()V"⟩
abbrev cX1_copyFrom : ByteArray := prog_3_method_2_code
def yX1_copyFrom : MethodName := ⟨RX1, "copyFrom", "(LHedgeTreaties$Street;)V"⟩
abbrev cX1_isNested : ByteArray := prog_3_method_3_code
def yX1_isNested : MethodName := ⟨RX1, "isNested", "(I)Z"⟩
abbrev cX1_countNested : ByteArray := prog_3_method_4_code
def yX1_countNested : MethodName := ⟨RX1, "countNested", "()I"⟩
abbrev cX1_heightAfter : ByteArray := prog_3_method_5_code
def yX1_heightAfter : MethodName := ⟨RX1, "heightAfter", "(II)I"⟩
abbrev cX1_heightsAfter : ByteArray := prog_3_method_6_code
def yX1_heightsAfter : MethodName := ⟨RX1, "heightsAfter", "(I)I"⟩
abbrev cX1_passDay : ByteArray := prog_3_method_7_code
def yX1_passDay : MethodName := ⟨RX1, "passDay", "()V"⟩
abbrev cX1_cutOff : ByteArray := prog_3_method_8_code
def yX1_cutOff : MethodName := ⟨RX1, "cutOff", "(II)V"⟩
abbrev cX1_addTreaty : ByteArray := prog_3_method_9_code
def yX1_addTreaty : MethodName := ⟨RX1, "addTreaty", "(III)V"⟩
abbrev cX1_removeTreaty : ByteArray := prog_3_method_10_code
def yX1_removeTreaty : MethodName := ⟨RX1, "removeTreaty", "(I)V"⟩
abbrev cX1_isAbout : ByteArray := prog_3_method_11_code
def yX1_isAbout : MethodName := ⟨RX1, "isAbout", "(II)Z"⟩
abbrev cX1_isInForce : ByteArray := prog_3_method_12_code
def yX1_isInForce : MethodName := ⟨RX1, "isInForce", "(I)Z"⟩
abbrev cX1_countInForce : ByteArray := prog_3_method_13_code
def yX1_countInForce : MethodName := ⟨RX1, "countInForce", "(I)I"⟩
abbrev cX1_slackAfter : ByteArray := prog_3_method_14_code
def yX1_slackAfter : MethodName := ⟨RX1, "slackAfter", "(II)I"⟩
abbrev cX1_isBrokenAfter : ByteArray := prog_3_method_15_code
def yX1_isBrokenAfter : MethodName := ⟨RX1, "isBrokenAfter", "(II)Z"⟩
abbrev cX1_isBroken : ByteArray := prog_3_method_16_code
def yX1_isBroken : MethodName := ⟨RX1, "isBroken", "(I)Z"⟩
abbrev cX1_countBroken : ByteArray := prog_3_method_17_code
def yX1_countBroken : MethodName := ⟨RX1, "countBroken", "(II)I"⟩
def RX2 : String := "HedgeTreaties$Surveyor"
def TX2 : u_T := fun k => match k with
  | 0 => ("HedgeTreaties$Surveyor", "levels", "[I", true)
  | 1 => ("HedgeTreaties$Surveyor", "sums", "[I", true)
  | _ => ("HedgeTreaties$Surveyor", "pairs", "[[I", true)
def tyX2 : Nat → FieldType := fun k => match k with
  | 0 => .array .int
  | 1 => .array .int
  | _ => .array (.array .int)
abbrev wsX20 : List Cond := u_ws RX2 TX2 3
theorem nmX2 : ∀ a, a < 3 → ∀ b, b < 3 → a ≠ b → (TX2 a).2.1 ≠ (TX2 b).2.1 := by decide +kernel
theorem tyX2_ok : ∀ k, k < 3 → parseFieldDescriptor (TX2 k).2.2.1 = some (tyX2 k) := by decide +kernel
abbrev cX2_init : ByteArray := prog_4_method_1_code
def yX2_init : MethodName := ⟨RX2, "<init>", "()V"⟩
abbrev cX2_boundByTreaties : ByteArray := prog_4_method_2_code
def yX2_boundByTreaties : MethodName := ⟨RX2, "boundByTreaties", "(LHedgeTreaties$Street;III)I"⟩
abbrev cX2_shortenSums : ByteArray := prog_4_method_3_code
def yX2_shortenSums : MethodName := ⟨RX2, "shortenSums", "(LHedgeTreaties$Street;I)Z"⟩
abbrev cX2_boundByPairs : ByteArray := prog_4_method_4_code
def yX2_boundByPairs : MethodName := ⟨RX2, "boundByPairs", "(LHedgeTreaties$Street;II)I"⟩
abbrev cX2_findPairs : ByteArray := prog_4_method_5_code
def yX2_findPairs : MethodName := ⟨RX2, "findPairs", "(LHedgeTreaties$Street;)V"⟩
abbrev cX2_startPairs : ByteArray := prog_4_method_6_code
def yX2_startPairs : MethodName := ⟨RX2, "startPairs", "(LHedgeTreaties$Street;)V"⟩
abbrev cX2_joinPair : ByteArray := prog_4_method_7_code
def yX2_joinPair : MethodName := ⟨RX2, "joinPair", "(III)V"⟩
abbrev cX2_findLeastClipping : ByteArray := prog_4_method_8_code
def yX2_findLeastClipping : MethodName := ⟨RX2, "findLeastClipping", "(LHedgeTreaties$Street;)Z"⟩
abbrev cX2_findLeastClippingByBounds : ByteArray := prog_4_method_9_code
def yX2_findLeastClippingByBounds : MethodName := ⟨RX2, "findLeastClippingByBounds", "(LHedgeTreaties$Street;)Z"⟩
abbrev cX2_isPossibleWith : ByteArray := prog_4_method_10_code
def yX2_isPossibleWith : MethodName := ⟨RX2, "isPossibleWith", "(LHedgeTreaties$Street;III)Z"⟩
abbrev cX2_pressByTreaties : ByteArray := prog_4_method_11_code
def yX2_pressByTreaties : MethodName := ⟨RX2, "pressByTreaties", "(LHedgeTreaties$Street;Z)Z"⟩
abbrev cX2_press : ByteArray := prog_4_method_12_code
def yX2_press : MethodName := ⟨RX2, "press", "(III)Z"⟩
abbrev cX2_areLevelsAboveGround : ByteArray := prog_4_method_13_code
def yX2_areLevelsAboveGround : MethodName := ⟨RX2, "areLevelsAboveGround", "()Z"⟩
def RX3 : String := "HedgeTreaties"
def TX3 : u_T := fun k => match k with
  | 0 => ("HedgeTreaties", "street", "LHedgeTreaties$Street;", true)
  | 1 => ("HedgeTreaties", "snapshot", "LHedgeTreaties$Street;", true)
  | 2 => ("HedgeTreaties", "history", "[LHedgeTreaties$Street;", true)
  | 3 => ("HedgeTreaties", "surveyor", "LHedgeTreaties$Surveyor;", true)
  | 4 => ("HedgeTreaties", "pad", "LHedgeTreaties$Pad;", true)
  | 5 => ("HedgeTreaties", "states", "I", false)
  | 6 => ("HedgeTreaties", "saved", "Z", false)
  | 7 => ("HedgeTreaties", "stopAnswer", "I", false)
  | 8 => ("HedgeTreaties", "stopPart", "I", false)
  | _ => ("HedgeTreaties", "stopPosition", "I", false)
def tyX3 : Nat → FieldType := fun k => match k with
  | 0 => .object "HedgeTreaties$Street"
  | 1 => .object "HedgeTreaties$Street"
  | 2 => .array (.object "HedgeTreaties$Street")
  | 3 => .object "HedgeTreaties$Surveyor"
  | 4 => .object "HedgeTreaties$Pad"
  | 5 => .int
  | 6 => .boolean
  | 7 => .int
  | 8 => .int
  | _ => .int
abbrev wsX30 : List Cond := u_ws RX3 TX3 10
theorem nmX3 : ∀ a, a < 10 → ∀ b, b < 10 → a ≠ b → (TX3 a).2.1 ≠ (TX3 b).2.1 := by decide +kernel
theorem tyX3_ok : ∀ k, k < 10 → parseFieldDescriptor (TX3 k).2.2.1 = some (tyX3 k) := by decide +kernel
abbrev cX3_init : ByteArray := prog_1_method_1_code
def yX3_init : MethodName := ⟨RX3, "<init>", "()V"⟩
abbrev cX3_height : ByteArray := prog_1_method_2_code
def yX3_height : MethodName := ⟨RX3, "height", "(II)I"⟩
abbrev cX3_growth : ByteArray := prog_1_method_3_code
def yX3_growth : MethodName := ⟨RX3, "growth", "(II)I"⟩
abbrev cX3_nest : ByteArray := prog_1_method_4_code
def yX3_nest : MethodName := ⟨RX3, "nest", "(II)I"⟩
abbrev cX3_clip : ByteArray := prog_1_method_5_code
def yX3_clip : MethodName := ⟨RX3, "clip", "(II)I"⟩
abbrev cX3_plan : ByteArray := prog_1_method_6_code
def yX3_plan : MethodName := ⟨RX3, "plan", "()I"⟩
abbrev cX3_day : ByteArray := prog_1_method_7_code
def yX3_day : MethodName := ⟨RX3, "day", "()I"⟩
abbrev cX3_sign : ByteArray := prog_1_method_8_code
def yX3_sign : MethodName := ⟨RX3, "sign", "(III)I"⟩
abbrev cX3_cancel : ByteArray := prog_1_method_9_code
def yX3_cancel : MethodName := ⟨RX3, "cancel", "(I)I"⟩
abbrev cX3_freeze : ByteArray := prog_1_method_10_code
def yX3_freeze : MethodName := ⟨RX3, "freeze", "(II)I"⟩
abbrev cX3_thaw : ByteArray := prog_1_method_11_code
def yX3_thaw : MethodName := ⟨RX3, "thaw", "(I)I"⟩
abbrev cX3_append : ByteArray := prog_1_method_12_code
def yX3_append : MethodName := ⟨RX3, "append", "(I)I"⟩
abbrev cX3_clear : ByteArray := prog_1_method_13_code
def yX3_clear : MethodName := ⟨RX3, "clear", "()I"⟩
abbrev cX3_fault : ByteArray := prog_1_method_14_code
def yX3_fault : MethodName := ⟨RX3, "fault", "()I"⟩
abbrev cX3_signAll : ByteArray := prog_1_method_15_code
def yX3_signAll : MethodName := ⟨RX3, "signAll", "()I"⟩
abbrev cX3_why : ByteArray := prog_1_method_16_code
def yX3_why : MethodName := ⟨RX3, "why", "(I)I"⟩
abbrev cX3_hedge : ByteArray := prog_1_method_17_code
def yX3_hedge : MethodName := ⟨RX3, "hedge", "(II)I"⟩
abbrev cX3_treaty : ByteArray := prog_1_method_18_code
def yX3_treaty : MethodName := ⟨RX3, "treaty", "(II)I"⟩
abbrev cX3_bound : ByteArray := prog_1_method_19_code
def yX3_bound : MethodName := ⟨RX3, "bound", "(III)I"⟩
abbrev cX3_whyNot : ByteArray := prog_1_method_20_code
def yX3_whyNot : MethodName := ⟨RX3, "whyNot", "(III)I"⟩
abbrev cX3_clipping : ByteArray := prog_1_method_21_code
def yX3_clipping : MethodName := ⟨RX3, "clipping", "(I)I"⟩
abbrev cX3_count : ByteArray := prog_1_method_22_code
def yX3_count : MethodName := ⟨RX3, "count", "(I)I"⟩
abbrev cX3_peace : ByteArray := prog_1_method_23_code
def yX3_peace : MethodName := ⟨RX3, "peace", "()D"⟩
abbrev cX3_ifDays : ByteArray := prog_1_method_24_code
def yX3_ifDays : MethodName := ⟨RX3, "ifDays", "(II)I"⟩
abbrev cX3_breaksIn : ByteArray := prog_1_method_25_code
def yX3_breaksIn : MethodName := ⟨RX3, "breaksIn", "()I"⟩
abbrev cX3_tightest : ByteArray := prog_1_method_26_code
def yX3_tightest : MethodName := ⟨RX3, "tightest", "(II)I"⟩
abbrev cX3_undo : ByteArray := prog_1_method_27_code
def yX3_undo : MethodName := ⟨RX3, "undo", "()I"⟩
abbrev cX3_save : ByteArray := prog_1_method_28_code
def yX3_save : MethodName := ⟨RX3, "save", "()I"⟩
abbrev cX3_restore : ByteArray := prog_1_method_29_code
def yX3_restore : MethodName := ⟨RX3, "restore", "()I"⟩
abbrev cX3_isHedge : ByteArray := prog_1_method_30_code
def yX3_isHedge : MethodName := ⟨RX3, "isHedge", "(I)Z"⟩
abbrev cX3_isTreaty : ByteArray := prog_1_method_31_code
def yX3_isTreaty : MethodName := ⟨RX3, "isTreaty", "(I)Z"⟩
abbrev cX3_isAgreement : ByteArray := prog_1_method_32_code
def yX3_isAgreement : MethodName := ⟨RX3, "isAgreement", "(III)Z"⟩
abbrev cX3_sum : ByteArray := prog_1_method_33_code
def yX3_sum : MethodName := ⟨RX3, "sum", "([I)I"⟩
abbrev cX3_remember : ByteArray := prog_1_method_34_code
def yX3_remember : MethodName := ⟨RX3, "remember", "()V"⟩
abbrev cX3_dropOldestState : ByteArray := prog_1_method_35_code
def yX3_dropOldestState : MethodName := ⟨RX3, "dropOldestState", "()V"⟩
abbrev cX3_refuse : ByteArray := prog_1_method_36_code
def yX3_refuse : MethodName := ⟨RX3, "refuse", "(I)I"⟩
abbrev cX3_isNestInTheWay : ByteArray := prog_1_method_37_code
def yX3_isNestInTheWay : MethodName := ⟨RX3, "isNestInTheWay", "()Z"⟩
abbrev cX3_errorOfSigning : ByteArray := prog_1_method_38_code
def yX3_errorOfSigning : MethodName := ⟨RX3, "errorOfSigning", "(III)I"⟩
abbrev cX3_reasonAgainst : ByteArray := prog_1_method_39_code
def yX3_reasonAgainst : MethodName := ⟨RX3, "reasonAgainst", "(III)I"⟩
abbrev cX3_signOne : ByteArray := prog_1_method_40_code
def yX3_signOne : MethodName := ⟨RX3, "signOne", "(III)I"⟩
abbrev cX3_signPart : ByteArray := prog_1_method_41_code
def yX3_signPart : MethodName := ⟨RX3, "signPart", "(I)I"⟩
abbrev cX3_isNothingNewBesideOthers : ByteArray := prog_1_method_42_code
def yX3_isNothingNewBesideOthers : MethodName := ⟨RX3, "isNothingNewBesideOthers", "(I)Z"⟩
def RX4 : String := "HedgeTreatiesModel"
def TX4 : u_T := fun k => match k with
  | 0 => ("HedgeTreatiesModel", "s", "[I", true)
  | 1 => ("HedgeTreatiesModel", "aside", "[I", true)
  | 2 => ("HedgeTreatiesModel", "past", "[I", true)
  | 3 => ("HedgeTreatiesModel", "known", "I", false)
  | 4 => ("HedgeTreatiesModel", "kept", "[I", true)
  | 5 => ("HedgeTreatiesModel", "isKept", "Z", false)
  | 6 => ("HedgeTreatiesModel", "pad", "[I", true)
  | 7 => ("HedgeTreatiesModel", "length", "I", false)
  | 8 => ("HedgeTreatiesModel", "tall", "[I", true)
  | 9 => ("HedgeTreatiesModel", "far", "[I", true)
  | 10 => ("HedgeTreatiesModel", "spot", "I", false)
  | 11 => ("HedgeTreatiesModel", "isForm", "Z", false)
  | 12 => ("HedgeTreatiesModel", "first", "I", false)
  | 13 => ("HedgeTreatiesModel", "other", "I", false)
  | 14 => ("HedgeTreatiesModel", "more", "I", false)
  | 15 => ("HedgeTreatiesModel", "isStopped", "Z", false)
  | _ => ("HedgeTreatiesModel", "stop", "[I", true)
def tyX4 : Nat → FieldType := fun k => match k with
  | 0 => .array .int
  | 1 => .array .int
  | 2 => .array .int
  | 3 => .int
  | 4 => .array .int
  | 5 => .boolean
  | 6 => .array .int
  | 7 => .int
  | 8 => .array .int
  | 9 => .array .int
  | 10 => .int
  | 11 => .boolean
  | 12 => .int
  | 13 => .int
  | 14 => .int
  | 15 => .boolean
  | _ => .array .int
abbrev wsX40 : List Cond := u_ws RX4 TX4 17
theorem nmX4 : ∀ a, a < 17 → ∀ b, b < 17 → a ≠ b → (TX4 a).2.1 ≠ (TX4 b).2.1 := by decide +kernel
theorem tyX4_ok : ∀ k, k < 17 → parseFieldDescriptor (TX4 k).2.2.1 = some (tyX4 k) := by decide +kernel
abbrev cX4_init : ByteArray := prog_6_method_1_code
def yX4_init : MethodName := ⟨RX4, "<init>", "()V"⟩
abbrev cX4_in : ByteArray := prog_6_method_3_code
def yX4_in : MethodName := ⟨RX4, "in", "(III)Z"⟩
abbrev cX4_copies : ByteArray := prog_6_method_4_code
def yX4_copies : MethodName := ⟨RX4, "copies", "([II[II)V"⟩
abbrev cX4_records : ByteArray := prog_6_method_5_code
def yX4_records : MethodName := ⟨RX4, "records", "()V"⟩
abbrev cX4_isHedge : ByteArray := prog_6_method_6_code
def yX4_isHedge : MethodName := ⟨RX4, "isHedge", "(I)Z"⟩
abbrev cX4_isTreaty : ByteArray := prog_6_method_7_code
def yX4_isTreaty : MethodName := ⟨RX4, "isTreaty", "(I)Z"⟩
abbrev cX4_of : ByteArray := prog_6_method_8_code
def yX4_of : MethodName := ⟨RX4, "of", "(II)I"⟩
abbrev cX4_lays : ByteArray := prog_6_method_9_code
def yX4_lays : MethodName := ⟨RX4, "lays", "(III)V"⟩
abbrev cX4_ofTreaty : ByteArray := prog_6_method_10_code
def yX4_ofTreaty : MethodName := ⟨RX4, "ofTreaty", "(II)I"⟩
abbrev cX4_laysTreaty : ByteArray := prog_6_method_11_code
def yX4_laysTreaty : MethodName := ⟨RX4, "laysTreaty", "(III)V"⟩
abbrev cX4_isNested : ByteArray := prog_6_method_12_code
def yX4_isNested : MethodName := ⟨RX4, "isNested", "(I)Z"⟩
abbrev cX4_isForce : ByteArray := prog_6_method_13_code
def yX4_isForce : MethodName := ⟨RX4, "isForce", "(I)Z"⟩
abbrev cX4_slackOf : ByteArray := prog_6_method_14_code
def yX4_slackOf : MethodName := ⟨RX4, "slackOf", "(I)I"⟩
abbrev cX4_isBroken : ByteArray := prog_6_method_15_code
def yX4_isBroken : MethodName := ⟨RX4, "isBroken", "(I)Z"⟩
abbrev cX4_brokenOnes : ByteArray := prog_6_method_16_code
def yX4_brokenOnes : MethodName := ⟨RX4, "brokenOnes", "()I"⟩
abbrev cX4_inForce : ByteArray := prog_6_method_17_code
def yX4_inForce : MethodName := ⟨RX4, "inForce", "()I"⟩
abbrev cX4_lowers : ByteArray := prog_6_method_18_code
def yX4_lowers : MethodName := ⟨RX4, "lowers", "(III)Z"⟩
abbrev cX4_areTall : ByteArray := prog_6_method_19_code
def yX4_areTall : MethodName := ⟨RX4, "areTall", "()Z"⟩
abbrev cX4_settles : ByteArray := prog_6_method_20_code
def yX4_settles : MethodName := ⟨RX4, "settles", "(Z)Z"⟩
abbrev cX4_isPossible : ByteArray := prog_6_method_21_code
def yX4_isPossible : MethodName := ⟨RX4, "isPossible", "(III)Z"⟩
abbrev cX4_hasLeast : ByteArray := prog_6_method_22_code
def yX4_hasLeast : MethodName := ⟨RX4, "hasLeast", "()Z"⟩
abbrev cX4_boundBut : ByteArray := prog_6_method_23_code
def yX4_boundBut : MethodName := ⟨RX4, "boundBut", "(III)I"⟩
abbrev cX4_reasonToSign : ByteArray := prog_6_method_24_code
def yX4_reasonToSign : MethodName := ⟨RX4, "reasonToSign", "(III)I"⟩
abbrev cX4_refuses : ByteArray := prog_6_method_25_code
def yX4_refuses : MethodName := ⟨RX4, "refuses", "(I)I"⟩
abbrev cX4_isPair : ByteArray := prog_6_method_26_code
def yX4_isPair : MethodName := ⟨RX4, "isPair", "(II)Z"⟩
abbrev cX4_errorOfSign : ByteArray := prog_6_method_27_code
def yX4_errorOfSign : MethodName := ⟨RX4, "errorOfSign", "(III)I"⟩
abbrev cX4_goSign : ByteArray := prog_6_method_28_code
def yX4_goSign : MethodName := ⟨RX4, "goSign", "(III)I"⟩
abbrev cX4_clips : ByteArray := prog_6_method_29_code
def yX4_clips : MethodName := ⟨RX4, "clips", "(II)V"⟩
abbrev cX4_goPlan : ByteArray := prog_6_method_30_code
def yX4_goPlan : MethodName := ⟨RX4, "goPlan", "()I"⟩
abbrev cX4_goDay : ByteArray := prog_6_method_31_code
def yX4_goDay : MethodName := ⟨RX4, "goDay", "()V"⟩
abbrev cX4_height : ByteArray := prog_6_method_32_code
def yX4_height : MethodName := ⟨RX4, "height", "(II)I"⟩
abbrev cX4_growth : ByteArray := prog_6_method_33_code
def yX4_growth : MethodName := ⟨RX4, "growth", "(II)I"⟩
abbrev cX4_nest : ByteArray := prog_6_method_34_code
def yX4_nest : MethodName := ⟨RX4, "nest", "(II)I"⟩
abbrev cX4_clip : ByteArray := prog_6_method_35_code
def yX4_clip : MethodName := ⟨RX4, "clip", "(II)I"⟩
abbrev cX4_plan : ByteArray := prog_6_method_36_code
def yX4_plan : MethodName := ⟨RX4, "plan", "()I"⟩
abbrev cX4_day : ByteArray := prog_6_method_37_code
def yX4_day : MethodName := ⟨RX4, "day", "()I"⟩
abbrev cX4_sign : ByteArray := prog_6_method_38_code
def yX4_sign : MethodName := ⟨RX4, "sign", "(III)I"⟩
abbrev cX4_cancel : ByteArray := prog_6_method_39_code
def yX4_cancel : MethodName := ⟨RX4, "cancel", "(I)I"⟩
abbrev cX4_freeze : ByteArray := prog_6_method_40_code
def yX4_freeze : MethodName := ⟨RX4, "freeze", "(II)I"⟩
abbrev cX4_thaw : ByteArray := prog_6_method_41_code
def yX4_thaw : MethodName := ⟨RX4, "thaw", "(I)I"⟩
abbrev cX4_append : ByteArray := prog_6_method_42_code
def yX4_append : MethodName := ⟨RX4, "append", "(I)I"⟩
abbrev cX4_clear : ByteArray := prog_6_method_43_code
def yX4_clear : MethodName := ⟨RX4, "clear", "()I"⟩
abbrev cX4_here : ByteArray := prog_6_method_44_code
def yX4_here : MethodName := ⟨RX4, "here", "()I"⟩
abbrev cX4_takes : ByteArray := prog_6_method_45_code
def yX4_takes : MethodName := ⟨RX4, "takes", "(Z)V"⟩
abbrev cX4_takesDigit : ByteArray := prog_6_method_46_code
def yX4_takesDigit : MethodName := ⟨RX4, "takesDigit", "(II)I"⟩
abbrev cX4_takesNumber : ByteArray := prog_6_method_47_code
def yX4_takesNumber : MethodName := ⟨RX4, "takesNumber", "(I)I"⟩
abbrev cX4_takesPart : ByteArray := prog_6_method_48_code
def yX4_takesPart : MethodName := ⟨RX4, "takesPart", "()V"⟩
abbrev cX4_isText : ByteArray := prog_6_method_49_code
def yX4_isText : MethodName := ⟨RX4, "isText", "()Z"⟩
abbrev cX4_fault : ByteArray := prog_6_method_50_code
def yX4_fault : MethodName := ⟨RX4, "fault", "()I"⟩
abbrev cX4_signAll : ByteArray := prog_6_method_51_code
def yX4_signAll : MethodName := ⟨RX4, "signAll", "()I"⟩
abbrev cX4_why : ByteArray := prog_6_method_52_code
def yX4_why : MethodName := ⟨RX4, "why", "(I)I"⟩
abbrev cX4_isAbout : ByteArray := prog_6_method_53_code
def yX4_isAbout : MethodName := ⟨RX4, "isAbout", "(II)Z"⟩
abbrev cX4_brokenAbout : ByteArray := prog_6_method_54_code
def yX4_brokenAbout : MethodName := ⟨RX4, "brokenAbout", "(I)I"⟩
abbrev cX4_forceAbout : ByteArray := prog_6_method_55_code
def yX4_forceAbout : MethodName := ⟨RX4, "forceAbout", "(I)I"⟩
abbrev cX4_hedge : ByteArray := prog_6_method_56_code
def yX4_hedge : MethodName := ⟨RX4, "hedge", "(II)I"⟩
abbrev cX4_saysNothing : ByteArray := prog_6_method_57_code
def yX4_saysNothing : MethodName := ⟨RX4, "saysNothing", "(I)Z"⟩
abbrev cX4_treaty : ByteArray := prog_6_method_58_code
def yX4_treaty : MethodName := ⟨RX4, "treaty", "(II)I"⟩
abbrev cX4_boundOf : ByteArray := prog_6_method_59_code
def yX4_boundOf : MethodName := ⟨RX4, "boundOf", "(II)I"⟩
abbrev cX4_bound : ByteArray := prog_6_method_60_code
def yX4_bound : MethodName := ⟨RX4, "bound", "(III)I"⟩
abbrev cX4_whyNot : ByteArray := prog_6_method_61_code
def yX4_whyNot : MethodName := ⟨RX4, "whyNot", "(III)I"⟩
abbrev cX4_clippingNow : ByteArray := prog_6_method_62_code
def yX4_clippingNow : MethodName := ⟨RX4, "clippingNow", "()I"⟩
abbrev cX4_clipping : ByteArray := prog_6_method_63_code
def yX4_clipping : MethodName := ⟨RX4, "clipping", "(I)I"⟩
abbrev cX4_allHeights : ByteArray := prog_6_method_64_code
def yX4_allHeights : MethodName := ⟨RX4, "allHeights", "()I"⟩
abbrev cX4_nested : ByteArray := prog_6_method_65_code
def yX4_nested : MethodName := ⟨RX4, "nested", "()I"⟩
abbrev cX4_count : ByteArray := prog_6_method_66_code
def yX4_count : MethodName := ⟨RX4, "count", "(I)I"⟩
abbrev cX4_peace : ByteArray := prog_6_method_67_code
def yX4_peace : MethodName := ⟨RX4, "peace", "()D"⟩
abbrev cX4_ifDays : ByteArray := prog_6_method_68_code
def yX4_ifDays : MethodName := ⟨RX4, "ifDays", "(II)I"⟩
abbrev cX4_breaksIn : ByteArray := prog_6_method_69_code
def yX4_breaksIn : MethodName := ⟨RX4, "breaksIn", "()I"⟩
abbrev cX4_tightest : ByteArray := prog_6_method_70_code
def yX4_tightest : MethodName := ⟨RX4, "tightest", "(II)I"⟩
abbrev cX4_undo : ByteArray := prog_6_method_71_code
def yX4_undo : MethodName := ⟨RX4, "undo", "()I"⟩
abbrev cX4_save : ByteArray := prog_6_method_72_code
def yX4_save : MethodName := ⟨RX4, "save", "()I"⟩
abbrev cX4_restore : ByteArray := prog_6_method_73_code
def yX4_restore : MethodName := ⟨RX4, "restore", "()I"⟩
def RL : String := "HedgeTreatiesLaw"
abbrev cL_law : ByteArray := code
def yL_law : MethodName := ⟨RL, "law", "([I)Z"⟩
abbrev vwCl : List vw_C := [(RX0, TX0, 10), (RX1, TX1, 14), (RX2, TX2, 3), (RX3, TX3, 10), (RX4, TX4, 17)]
end
section
theorem dX0_init_0 : decode cX0_init 0 = .ok (.aload_n 0, 1) := by decide +kernel
theorem dX0_init_1 : decode cX0_init 1 = .ok (.invokespecial 3, 3) := by decide +kernel
theorem dX0_init_4 : decode cX0_init 4 = .ok (.aload_n 0, 1) := by decide +kernel
theorem dX0_init_5 : decode cX0_init 5 = .ok (.bipush 60, 2) := by decide +kernel
theorem dX0_init_7 : decode cX0_init 7 = .ok (.newarray .int, 2) := by decide +kernel
theorem dX0_init_9 : decode cX0_init 9 = .ok (.putfield 9, 3) := by decide +kernel
theorem dX0_init_12 : decode cX0_init 12 = .ok (.aload_n 0, 1) := by decide +kernel
theorem dX0_init_13 : decode cX0_init 13 = .ok (.bipush 15, 2) := by decide +kernel
theorem dX0_init_15 : decode cX0_init 15 = .ok (.newarray .int, 2) := by decide +kernel
theorem dX0_init_17 : decode cX0_init 17 = .ok (.putfield 15, 3) := by decide +kernel
theorem dX0_init_20 : decode cX0_init 20 = .ok (.aload_n 0, 1) := by decide +kernel
theorem dX0_init_21 : decode cX0_init 21 = .ok (.bipush 15, 2) := by decide +kernel
theorem dX0_init_23 : decode cX0_init 23 = .ok (.newarray .int, 2) := by decide +kernel
theorem dX0_init_25 : decode cX0_init 25 = .ok (.putfield 18, 3) := by decide +kernel
theorem dX0_init_28 : decode cX0_init 28 = .ok (.aload_n 0, 1) := by decide +kernel
theorem dX0_init_29 : decode cX0_init 29 = .ok (.bipush 15, 2) := by decide +kernel
theorem dX0_init_31 : decode cX0_init 31 = .ok (.newarray .int, 2) := by decide +kernel
theorem dX0_init_33 : decode cX0_init 33 = .ok (.putfield 21, 3) := by decide +kernel
theorem dX0_init_36 : decode cX0_init 36 = .ok (.aload_n 0, 1) := by decide +kernel
theorem dX0_init_37 : decode cX0_init 37 = .ok (.bipush 15, 2) := by decide +kernel
theorem dX0_init_39 : decode cX0_init 39 = .ok (.newarray .int, 2) := by decide +kernel
theorem dX0_init_41 : decode cX0_init 41 = .ok (.putfield 24, 3) := by decide +kernel
theorem dX0_init_44 : decode cX0_init 44 = .ok (.return_, 1) := by decide +kernel
theorem dX0_read_0 : decode cX0_read 0 = .ok (.aload_n 0, 1) := by decide +kernel
theorem dX0_read_1 : decode cX0_read 1 = .ok (.iconst 0, 1) := by decide +kernel
theorem dX0_read_2 : decode cX0_read 2 = .ok (.putfield 27, 3) := by decide +kernel
theorem dX0_read_5 : decode cX0_read 5 = .ok (.iconst 1, 1) := by decide +kernel
theorem dX0_read_6 : decode cX0_read 6 = .ok (.istore_n 1, 1) := by decide +kernel
theorem dX0_read_7 : decode cX0_read 7 = .ok (.iconst 0, 1) := by decide +kernel
theorem dX0_read_8 : decode cX0_read 8 = .ok (.istore_n 2, 1) := by decide +kernel
theorem dX0_read_9 : decode cX0_read 9 = .ok (.iload_n 2, 1) := by decide +kernel
theorem dX0_read_10 : decode cX0_read 10 = .ok (.aload_n 0, 1) := by decide +kernel
theorem dX0_read_11 : decode cX0_read 11 = .ok (.getfield 31, 3) := by decide +kernel
theorem dX0_read_14 : decode cX0_read 14 = .ok (.if_icmp .ge 22, 3) := by decide +kernel
theorem dX0_read_17 : decode cX0_read 17 = .ok (.aload_n 0, 1) := by decide +kernel
theorem dX0_read_18 : decode cX0_read 18 = .ok (.iload_n 2, 1) := by decide +kernel
theorem dX0_read_19 : decode cX0_read 19 = .ok (.iload_n 1, 1) := by decide +kernel
theorem dX0_read_20 : decode cX0_read 20 = .ok (.invokevirtual 34, 3) := by decide +kernel
theorem dX0_read_23 : decode cX0_read 23 = .ok (.istore_n 1, 1) := by decide +kernel
theorem dX0_read_24 : decode cX0_read 24 = .ok (.iload_n 1, 1) := by decide +kernel
theorem dX0_read_25 : decode cX0_read 25 = .ok (.ifCond .ne 5, 3) := by decide +kernel
theorem dX0_read_28 : decode cX0_read 28 = .ok (.iload_n 2, 1) := by decide +kernel
theorem dX0_read_29 : decode cX0_read 29 = .ok (.ireturn, 1) := by decide +kernel
theorem dX0_read_30 : decode cX0_read 30 = .ok (.iinc 2 1, 3) := by decide +kernel
theorem dX0_read_33 : decode cX0_read 33 = .ok (.goto (-24), 3) := by decide +kernel
theorem dX0_read_36 : decode cX0_read 36 = .ok (.iload_n 1, 1) := by decide +kernel
theorem dX0_read_37 : decode cX0_read 37 = .ok (.iconst 4, 1) := by decide +kernel
theorem dX0_read_38 : decode cX0_read 38 = .ok (.if_icmp .eq 9, 3) := by decide +kernel
theorem dX0_read_41 : decode cX0_read 41 = .ok (.iload_n 1, 1) := by decide +kernel
theorem dX0_read_42 : decode cX0_read 42 = .ok (.bipush 6, 2) := by decide +kernel
theorem dX0_read_44 : decode cX0_read 44 = .ok (.if_icmp .ne 8, 3) := by decide +kernel
theorem dX0_read_47 : decode cX0_read 47 = .ok (.bipush (-4), 2) := by decide +kernel
theorem dX0_read_49 : decode cX0_read 49 = .ok (.goto 7, 3) := by decide +kernel
theorem dX0_read_52 : decode cX0_read 52 = .ok (.aload_n 0, 1) := by decide +kernel
theorem dX0_read_53 : decode cX0_read 53 = .ok (.getfield 31, 3) := by decide +kernel
theorem dX0_read_56 : decode cX0_read 56 = .ok (.ireturn, 1) := by decide +kernel
theorem dX0_placeBehind_0 : decode cX0_placeBehind 0 = .ok (.aload_n 0, 1) := by decide +kernel
theorem dX0_placeBehind_1 : decode cX0_placeBehind 1 = .ok (.getfield 9, 3) := by decide +kernel
theorem dX0_placeBehind_4 : decode cX0_placeBehind 4 = .ok (.iload_n 1, 1) := by decide +kernel
theorem dX0_placeBehind_5 : decode cX0_placeBehind 5 = .ok (.iaload, 1) := by decide +kernel
theorem dX0_placeBehind_6 : decode cX0_placeBehind 6 = .ok (.istore_n 3, 1) := by decide +kernel
theorem dX0_placeBehind_7 : decode cX0_placeBehind 7 = .ok (.iload_n 2, 1) := by decide +kernel
theorem dX0_placeBehind_8 : decode cX0_placeBehind 8 = .ok (.tableswitch 102 1 6 #[40, 46, 58, 64, 70, 86], 40) := by decide +kernel
theorem dX0_placeBehind_48 : decode cX0_placeBehind 48 = .ok (.aload_n 0, 1) := by decide +kernel
theorem dX0_placeBehind_49 : decode cX0_placeBehind 49 = .ok (.iload_n 1, 1) := by decide +kernel
theorem dX0_placeBehind_50 : decode cX0_placeBehind 50 = .ok (.invokevirtual 38, 3) := by decide +kernel
theorem dX0_placeBehind_53 : decode cX0_placeBehind 53 = .ok (.ireturn, 1) := by decide +kernel
theorem dX0_placeBehind_54 : decode cX0_placeBehind 54 = .ok (.iload_n 3, 1) := by decide +kernel
theorem dX0_placeBehind_55 : decode cX0_placeBehind 55 = .ok (.bipush 60, 2) := by decide +kernel
theorem dX0_placeBehind_57 : decode cX0_placeBehind 57 = .ok (.if_icmp .ne 7, 3) := by decide +kernel
theorem dX0_placeBehind_60 : decode cX0_placeBehind 60 = .ok (.iconst 3, 1) := by decide +kernel
theorem dX0_placeBehind_61 : decode cX0_placeBehind 61 = .ok (.goto 4, 3) := by decide +kernel
theorem dX0_placeBehind_64 : decode cX0_placeBehind 64 = .ok (.iconst 0, 1) := by decide +kernel
theorem dX0_placeBehind_65 : decode cX0_placeBehind 65 = .ok (.ireturn, 1) := by decide +kernel
theorem dX0_placeBehind_66 : decode cX0_placeBehind 66 = .ok (.aload_n 0, 1) := by decide +kernel
theorem dX0_placeBehind_67 : decode cX0_placeBehind 67 = .ok (.iload_n 3, 1) := by decide +kernel
theorem dX0_placeBehind_68 : decode cX0_placeBehind 68 = .ok (.invokevirtual 42, 3) := by decide +kernel
theorem dX0_placeBehind_71 : decode cX0_placeBehind 71 = .ok (.ireturn, 1) := by decide +kernel
theorem dX0_placeBehind_72 : decode cX0_placeBehind 72 = .ok (.aload_n 0, 1) := by decide +kernel
theorem dX0_placeBehind_73 : decode cX0_placeBehind 73 = .ok (.iload_n 3, 1) := by decide +kernel
theorem dX0_placeBehind_74 : decode cX0_placeBehind 74 = .ok (.invokevirtual 45, 3) := by decide +kernel
theorem dX0_placeBehind_77 : decode cX0_placeBehind 77 = .ok (.ireturn, 1) := by decide +kernel
theorem dX0_placeBehind_78 : decode cX0_placeBehind 78 = .ok (.iload_n 3, 1) := by decide +kernel
theorem dX0_placeBehind_79 : decode cX0_placeBehind 79 = .ok (.bipush 48, 2) := by decide +kernel
theorem dX0_placeBehind_81 : decode cX0_placeBehind 81 = .ok (.if_icmp .ne 7, 3) := by decide +kernel
theorem dX0_placeBehind_84 : decode cX0_placeBehind 84 = .ok (.iconst 0, 1) := by decide +kernel
theorem dX0_placeBehind_85 : decode cX0_placeBehind 85 = .ok (.goto 8, 3) := by decide +kernel
theorem dX0_placeBehind_88 : decode cX0_placeBehind 88 = .ok (.aload_n 0, 1) := by decide +kernel
theorem dX0_placeBehind_89 : decode cX0_placeBehind 89 = .ok (.iload_n 3, 1) := by decide +kernel
theorem dX0_placeBehind_90 : decode cX0_placeBehind 90 = .ok (.invokevirtual 48, 3) := by decide +kernel
theorem dX0_placeBehind_93 : decode cX0_placeBehind 93 = .ok (.ireturn, 1) := by decide +kernel
theorem dX0_placeBehind_94 : decode cX0_placeBehind 94 = .ok (.iload_n 3, 1) := by decide +kernel
theorem dX0_placeBehind_95 : decode cX0_placeBehind 95 = .ok (.bipush 59, 2) := by decide +kernel
theorem dX0_placeBehind_97 : decode cX0_placeBehind 97 = .ok (.if_icmp .ne 7, 3) := by decide +kernel
theorem dX0_placeBehind_100 : decode cX0_placeBehind 100 = .ok (.iconst 1, 1) := by decide +kernel
theorem dX0_placeBehind_101 : decode cX0_placeBehind 101 = .ok (.goto 8, 3) := by decide +kernel
theorem dX0_placeBehind_104 : decode cX0_placeBehind 104 = .ok (.aload_n 0, 1) := by decide +kernel
theorem dX0_placeBehind_105 : decode cX0_placeBehind 105 = .ok (.iload_n 3, 1) := by decide +kernel
theorem dX0_placeBehind_106 : decode cX0_placeBehind 106 = .ok (.invokevirtual 48, 3) := by decide +kernel
theorem dX0_placeBehind_109 : decode cX0_placeBehind 109 = .ok (.ireturn, 1) := by decide +kernel
theorem dX0_placeBehind_110 : decode cX0_placeBehind 110 = .ok (.iconst 0, 1) := by decide +kernel
theorem dX0_placeBehind_111 : decode cX0_placeBehind 111 = .ok (.ireturn, 1) := by decide +kernel
theorem dX0_isDigit_0 : decode cX0_isDigit 0 = .ok (.iload_n 0, 1) := by decide +kernel
theorem dX0_isDigit_1 : decode cX0_isDigit 1 = .ok (.bipush 48, 2) := by decide +kernel
theorem dX0_isDigit_3 : decode cX0_isDigit 3 = .ok (.if_icmp .lt 15, 3) := by decide +kernel
theorem dX0_isDigit_6 : decode cX0_isDigit 6 = .ok (.iload_n 0, 1) := by decide +kernel
theorem dX0_isDigit_7 : decode cX0_isDigit 7 = .ok (.bipush 48, 2) := by decide +kernel
theorem dX0_isDigit_9 : decode cX0_isDigit 9 = .ok (.isub, 1) := by decide +kernel
theorem dX0_isDigit_10 : decode cX0_isDigit 10 = .ok (.iload_n 1, 1) := by decide +kernel
theorem dX0_isDigit_11 : decode cX0_isDigit 11 = .ok (.if_icmp .gt 7, 3) := by decide +kernel
theorem dX0_isDigit_14 : decode cX0_isDigit 14 = .ok (.iconst 1, 1) := by decide +kernel
theorem dX0_isDigit_15 : decode cX0_isDigit 15 = .ok (.goto 4, 3) := by decide +kernel
theorem dX0_isDigit_18 : decode cX0_isDigit 18 = .ok (.iconst 0, 1) := by decide +kernel
theorem dX0_isDigit_19 : decode cX0_isDigit 19 = .ok (.ireturn, 1) := by decide +kernel
theorem dX0_startPart_0 : decode cX0_startPart 0 = .ok (.aload_n 0, 1) := by decide +kernel
theorem dX0_startPart_1 : decode cX0_startPart 1 = .ok (.getfield 9, 3) := by decide +kernel
theorem dX0_startPart_4 : decode cX0_startPart 4 = .ok (.iload_n 1, 1) := by decide +kernel
theorem dX0_startPart_5 : decode cX0_startPart 5 = .ok (.iaload, 1) := by decide +kernel
theorem dX0_startPart_6 : decode cX0_startPart 6 = .ok (.istore_n 2, 1) := by decide +kernel
theorem dX0_startPart_7 : decode cX0_startPart 7 = .ok (.iload_n 2, 1) := by decide +kernel
theorem dX0_startPart_8 : decode cX0_startPart 8 = .ok (.bipush 7, 2) := by decide +kernel
theorem dX0_startPart_10 : decode cX0_startPart 10 = .ok (.invokestatic 51, 3) := by decide +kernel
theorem dX0_startPart_13 : decode cX0_startPart 13 = .ok (.ifCond .eq 12, 3) := by decide +kernel
theorem dX0_startPart_16 : decode cX0_startPart 16 = .ok (.aload_n 0, 1) := by decide +kernel
theorem dX0_startPart_17 : decode cX0_startPart 17 = .ok (.getfield 27, 3) := by decide +kernel
theorem dX0_startPart_20 : decode cX0_startPart 20 = .ok (.bipush 15, 2) := by decide +kernel
theorem dX0_startPart_22 : decode cX0_startPart 22 = .ok (.if_icmp .lt 5, 3) := by decide +kernel
theorem dX0_startPart_25 : decode cX0_startPart 25 = .ok (.iconst 0, 1) := by decide +kernel
theorem dX0_startPart_26 : decode cX0_startPart 26 = .ok (.ireturn, 1) := by decide +kernel
theorem dX0_startPart_27 : decode cX0_startPart 27 = .ok (.aload_n 0, 1) := by decide +kernel
theorem dX0_startPart_28 : decode cX0_startPart 28 = .ok (.getfield 15, 3) := by decide +kernel
theorem dX0_startPart_31 : decode cX0_startPart 31 = .ok (.aload_n 0, 1) := by decide +kernel
theorem dX0_startPart_32 : decode cX0_startPart 32 = .ok (.getfield 27, 3) := by decide +kernel
theorem dX0_startPart_35 : decode cX0_startPart 35 = .ok (.iload_n 1, 1) := by decide +kernel
theorem dX0_startPart_36 : decode cX0_startPart 36 = .ok (.iastore, 1) := by decide +kernel
theorem dX0_startPart_37 : decode cX0_startPart 37 = .ok (.aload_n 0, 1) := by decide +kernel
theorem dX0_startPart_38 : decode cX0_startPart 38 = .ok (.getfield 18, 3) := by decide +kernel
theorem dX0_startPart_41 : decode cX0_startPart 41 = .ok (.aload_n 0, 1) := by decide +kernel
theorem dX0_startPart_42 : decode cX0_startPart 42 = .ok (.getfield 27, 3) := by decide +kernel
theorem dX0_startPart_45 : decode cX0_startPart 45 = .ok (.iload_n 2, 1) := by decide +kernel
theorem dX0_startPart_46 : decode cX0_startPart 46 = .ok (.bipush 48, 2) := by decide +kernel
theorem dX0_startPart_48 : decode cX0_startPart 48 = .ok (.isub, 1) := by decide +kernel
theorem dX0_startPart_49 : decode cX0_startPart 49 = .ok (.iastore, 1) := by decide +kernel
theorem dX0_startPart_50 : decode cX0_startPart 50 = .ok (.aload_n 0, 1) := by decide +kernel
theorem dX0_startPart_51 : decode cX0_startPart 51 = .ok (.getfield 24, 3) := by decide +kernel
theorem dX0_startPart_54 : decode cX0_startPart 54 = .ok (.aload_n 0, 1) := by decide +kernel
theorem dX0_startPart_55 : decode cX0_startPart 55 = .ok (.getfield 27, 3) := by decide +kernel
theorem dX0_startPart_58 : decode cX0_startPart 58 = .ok (.iconst 0, 1) := by decide +kernel
theorem dX0_startPart_59 : decode cX0_startPart 59 = .ok (.iastore, 1) := by decide +kernel
theorem dX0_startPart_60 : decode cX0_startPart 60 = .ok (.aload_n 0, 1) := by decide +kernel
theorem dX0_startPart_61 : decode cX0_startPart 61 = .ok (.dup, 1) := by decide +kernel
theorem dX0_startPart_62 : decode cX0_startPart 62 = .ok (.getfield 27, 3) := by decide +kernel
theorem dX0_startPart_65 : decode cX0_startPart 65 = .ok (.iconst 1, 1) := by decide +kernel
theorem dX0_startPart_66 : decode cX0_startPart 66 = .ok (.iadd, 1) := by decide +kernel
theorem dX0_startPart_67 : decode cX0_startPart 67 = .ok (.putfield 27, 3) := by decide +kernel
theorem dX0_startPart_70 : decode cX0_startPart 70 = .ok (.iconst 2, 1) := by decide +kernel
theorem dX0_startPart_71 : decode cX0_startPart 71 = .ok (.ireturn, 1) := by decide +kernel
theorem dX0_takeOther_0 : decode cX0_takeOther 0 = .ok (.iload_n 1, 1) := by decide +kernel
theorem dX0_takeOther_1 : decode cX0_takeOther 1 = .ok (.bipush 7, 2) := by decide +kernel
theorem dX0_takeOther_3 : decode cX0_takeOther 3 = .ok (.invokestatic 51, 3) := by decide +kernel
theorem dX0_takeOther_6 : decode cX0_takeOther 6 = .ok (.ifCond .ne 5, 3) := by decide +kernel
theorem dX0_takeOther_9 : decode cX0_takeOther 9 = .ok (.iconst 0, 1) := by decide +kernel
theorem dX0_takeOther_10 : decode cX0_takeOther 10 = .ok (.ireturn, 1) := by decide +kernel
theorem dX0_takeOther_11 : decode cX0_takeOther 11 = .ok (.aload_n 0, 1) := by decide +kernel
theorem dX0_takeOther_12 : decode cX0_takeOther 12 = .ok (.getfield 21, 3) := by decide +kernel
theorem dX0_takeOther_15 : decode cX0_takeOther 15 = .ok (.aload_n 0, 1) := by decide +kernel
theorem dX0_takeOther_16 : decode cX0_takeOther 16 = .ok (.getfield 27, 3) := by decide +kernel
theorem dX0_takeOther_19 : decode cX0_takeOther 19 = .ok (.iconst 1, 1) := by decide +kernel
theorem dX0_takeOther_20 : decode cX0_takeOther 20 = .ok (.isub, 1) := by decide +kernel
theorem dX0_takeOther_21 : decode cX0_takeOther 21 = .ok (.iload_n 1, 1) := by decide +kernel
theorem dX0_takeOther_22 : decode cX0_takeOther 22 = .ok (.bipush 48, 2) := by decide +kernel
theorem dX0_takeOther_24 : decode cX0_takeOther 24 = .ok (.isub, 1) := by decide +kernel
theorem dX0_takeOther_25 : decode cX0_takeOther 25 = .ok (.iastore, 1) := by decide +kernel
theorem dX0_takeOther_26 : decode cX0_takeOther 26 = .ok (.iconst 4, 1) := by decide +kernel
theorem dX0_takeOther_27 : decode cX0_takeOther 27 = .ok (.ireturn, 1) := by decide +kernel
theorem dX0_takeSign_0 : decode cX0_takeSign 0 = .ok (.iload_n 1, 1) := by decide +kernel
theorem dX0_takeSign_1 : decode cX0_takeSign 1 = .ok (.lookupswitch 53 #[(43, 37), (45, 45), (59, 35)], 35) := by decide +kernel
theorem dX0_takeSign_36 : decode cX0_takeSign 36 = .ok (.iconst 1, 1) := by decide +kernel
theorem dX0_takeSign_37 : decode cX0_takeSign 37 = .ok (.ireturn, 1) := by decide +kernel
theorem dX0_takeSign_38 : decode cX0_takeSign 38 = .ok (.aload_n 0, 1) := by decide +kernel
theorem dX0_takeSign_39 : decode cX0_takeSign 39 = .ok (.iconst 1, 1) := by decide +kernel
theorem dX0_takeSign_40 : decode cX0_takeSign 40 = .ok (.bipush 60, 2) := by decide +kernel
theorem dX0_takeSign_42 : decode cX0_takeSign 42 = .ok (.invokevirtual 55, 3) := by decide +kernel
theorem dX0_takeSign_45 : decode cX0_takeSign 45 = .ok (.ireturn, 1) := by decide +kernel
theorem dX0_takeSign_46 : decode cX0_takeSign 46 = .ok (.aload_n 0, 1) := by decide +kernel
theorem dX0_takeSign_47 : decode cX0_takeSign 47 = .ok (.iconst (-1), 1) := by decide +kernel
theorem dX0_takeSign_48 : decode cX0_takeSign 48 = .ok (.bipush 30, 2) := by decide +kernel
theorem dX0_takeSign_50 : decode cX0_takeSign 50 = .ok (.invokevirtual 55, 3) := by decide +kernel
theorem dX0_takeSign_53 : decode cX0_takeSign 53 = .ok (.ireturn, 1) := by decide +kernel
theorem dX0_takeSign_54 : decode cX0_takeSign 54 = .ok (.iconst 0, 1) := by decide +kernel
theorem dX0_takeSign_55 : decode cX0_takeSign 55 = .ok (.ireturn, 1) := by decide +kernel
theorem dX0_startNumber_0 : decode cX0_startNumber 0 = .ok (.aload_n 0, 1) := by decide +kernel
theorem dX0_startNumber_1 : decode cX0_startNumber 1 = .ok (.iload_n 1, 1) := by decide +kernel
theorem dX0_startNumber_2 : decode cX0_startNumber 2 = .ok (.putfield 58, 3) := by decide +kernel
theorem dX0_startNumber_5 : decode cX0_startNumber 5 = .ok (.aload_n 0, 1) := by decide +kernel
theorem dX0_startNumber_6 : decode cX0_startNumber 6 = .ok (.iconst 0, 1) := by decide +kernel
theorem dX0_startNumber_7 : decode cX0_startNumber 7 = .ok (.putfield 61, 3) := by decide +kernel
theorem dX0_startNumber_10 : decode cX0_startNumber 10 = .ok (.aload_n 0, 1) := by decide +kernel
theorem dX0_startNumber_11 : decode cX0_startNumber 11 = .ok (.iload_n 2, 1) := by decide +kernel
theorem dX0_startNumber_12 : decode cX0_startNumber 12 = .ok (.putfield 64, 3) := by decide +kernel
theorem dX0_startNumber_15 : decode cX0_startNumber 15 = .ok (.iconst 5, 1) := by decide +kernel
theorem dX0_startNumber_16 : decode cX0_startNumber 16 = .ok (.ireturn, 1) := by decide +kernel
theorem dX0_takeDigit_0 : decode cX0_takeDigit 0 = .ok (.iload_n 1, 1) := by decide +kernel
theorem dX0_takeDigit_1 : decode cX0_takeDigit 1 = .ok (.bipush 9, 2) := by decide +kernel
theorem dX0_takeDigit_3 : decode cX0_takeDigit 3 = .ok (.invokestatic 51, 3) := by decide +kernel
theorem dX0_takeDigit_6 : decode cX0_takeDigit 6 = .ok (.ifCond .ne 5, 3) := by decide +kernel
theorem dX0_takeDigit_9 : decode cX0_takeDigit 9 = .ok (.iconst 0, 1) := by decide +kernel
theorem dX0_takeDigit_10 : decode cX0_takeDigit 10 = .ok (.ireturn, 1) := by decide +kernel
theorem dX0_takeDigit_11 : decode cX0_takeDigit 11 = .ok (.aload_n 0, 1) := by decide +kernel
theorem dX0_takeDigit_12 : decode cX0_takeDigit 12 = .ok (.aload_n 0, 1) := by decide +kernel
theorem dX0_takeDigit_13 : decode cX0_takeDigit 13 = .ok (.getfield 61, 3) := by decide +kernel
theorem dX0_takeDigit_16 : decode cX0_takeDigit 16 = .ok (.bipush 10, 2) := by decide +kernel
theorem dX0_takeDigit_18 : decode cX0_takeDigit 18 = .ok (.imul, 1) := by decide +kernel
theorem dX0_takeDigit_19 : decode cX0_takeDigit 19 = .ok (.iload_n 1, 1) := by decide +kernel
theorem dX0_takeDigit_20 : decode cX0_takeDigit 20 = .ok (.iadd, 1) := by decide +kernel
theorem dX0_takeDigit_21 : decode cX0_takeDigit 21 = .ok (.bipush 48, 2) := by decide +kernel
theorem dX0_takeDigit_23 : decode cX0_takeDigit 23 = .ok (.isub, 1) := by decide +kernel
theorem dX0_takeDigit_24 : decode cX0_takeDigit 24 = .ok (.putfield 61, 3) := by decide +kernel
theorem dX0_takeDigit_27 : decode cX0_takeDigit 27 = .ok (.aload_n 0, 1) := by decide +kernel
theorem dX0_takeDigit_28 : decode cX0_takeDigit 28 = .ok (.getfield 61, 3) := by decide +kernel
theorem dX0_takeDigit_31 : decode cX0_takeDigit 31 = .ok (.aload_n 0, 1) := by decide +kernel
theorem dX0_takeDigit_32 : decode cX0_takeDigit 32 = .ok (.getfield 64, 3) := by decide +kernel
theorem dX0_takeDigit_35 : decode cX0_takeDigit 35 = .ok (.if_icmp .le 5, 3) := by decide +kernel
theorem dX0_takeDigit_38 : decode cX0_takeDigit 38 = .ok (.iconst 0, 1) := by decide +kernel
theorem dX0_takeDigit_39 : decode cX0_takeDigit 39 = .ok (.ireturn, 1) := by decide +kernel
theorem dX0_takeDigit_40 : decode cX0_takeDigit 40 = .ok (.aload_n 0, 1) := by decide +kernel
theorem dX0_takeDigit_41 : decode cX0_takeDigit 41 = .ok (.getfield 24, 3) := by decide +kernel
theorem dX0_takeDigit_44 : decode cX0_takeDigit 44 = .ok (.aload_n 0, 1) := by decide +kernel
theorem dX0_takeDigit_45 : decode cX0_takeDigit 45 = .ok (.getfield 27, 3) := by decide +kernel
theorem dX0_takeDigit_48 : decode cX0_takeDigit 48 = .ok (.iconst 1, 1) := by decide +kernel
theorem dX0_takeDigit_49 : decode cX0_takeDigit 49 = .ok (.isub, 1) := by decide +kernel
theorem dX0_takeDigit_50 : decode cX0_takeDigit 50 = .ok (.aload_n 0, 1) := by decide +kernel
theorem dX0_takeDigit_51 : decode cX0_takeDigit 51 = .ok (.getfield 58, 3) := by decide +kernel
theorem dX0_takeDigit_54 : decode cX0_takeDigit 54 = .ok (.aload_n 0, 1) := by decide +kernel
theorem dX0_takeDigit_55 : decode cX0_takeDigit 55 = .ok (.getfield 61, 3) := by decide +kernel
theorem dX0_takeDigit_58 : decode cX0_takeDigit 58 = .ok (.imul, 1) := by decide +kernel
theorem dX0_takeDigit_59 : decode cX0_takeDigit 59 = .ok (.iastore, 1) := by decide +kernel
theorem dX0_takeDigit_60 : decode cX0_takeDigit 60 = .ok (.bipush 6, 2) := by decide +kernel
theorem dX0_takeDigit_62 : decode cX0_takeDigit 62 = .ok (.ireturn, 1) := by decide +kernel
end
section
theorem dX1_init_0 : decode cX1_init 0 = .ok (.aload_n 0, 1) := by decide +kernel
theorem dX1_init_1 : decode cX1_init 1 = .ok (.invokespecial 3, 3) := by decide +kernel
theorem dX1_init_4 : decode cX1_init 4 = .ok (.aload_n 0, 1) := by decide +kernel
theorem dX1_init_5 : decode cX1_init 5 = .ok (.bipush 8, 2) := by decide +kernel
theorem dX1_init_7 : decode cX1_init 7 = .ok (.newarray .int, 2) := by decide +kernel
theorem dX1_init_9 : decode cX1_init 9 = .ok (.putfield 9, 3) := by decide +kernel
theorem dX1_init_12 : decode cX1_init 12 = .ok (.aload_n 0, 1) := by decide +kernel
theorem dX1_init_13 : decode cX1_init 13 = .ok (.bipush 8, 2) := by decide +kernel
theorem dX1_init_15 : decode cX1_init 15 = .ok (.newarray .int, 2) := by decide +kernel
theorem dX1_init_17 : decode cX1_init 17 = .ok (.putfield 15, 3) := by decide +kernel
theorem dX1_init_20 : decode cX1_init 20 = .ok (.aload_n 0, 1) := by decide +kernel
theorem dX1_init_21 : decode cX1_init 21 = .ok (.bipush 8, 2) := by decide +kernel
theorem dX1_init_23 : decode cX1_init 23 = .ok (.newarray .int, 2) := by decide +kernel
theorem dX1_init_25 : decode cX1_init 25 = .ok (.putfield 18, 3) := by decide +kernel
theorem dX1_init_28 : decode cX1_init 28 = .ok (.aload_n 0, 1) := by decide +kernel
theorem dX1_init_29 : decode cX1_init 29 = .ok (.bipush 8, 2) := by decide +kernel
theorem dX1_init_31 : decode cX1_init 31 = .ok (.newarray .int, 2) := by decide +kernel
theorem dX1_init_33 : decode cX1_init 33 = .ok (.putfield 21, 3) := by decide +kernel
theorem dX1_init_36 : decode cX1_init 36 = .ok (.aload_n 0, 1) := by decide +kernel
theorem dX1_init_37 : decode cX1_init 37 = .ok (.bipush 14, 2) := by decide +kernel
theorem dX1_init_39 : decode cX1_init 39 = .ok (.newarray .int, 2) := by decide +kernel
theorem dX1_init_41 : decode cX1_init 41 = .ok (.putfield 24, 3) := by decide +kernel
theorem dX1_init_44 : decode cX1_init 44 = .ok (.aload_n 0, 1) := by decide +kernel
theorem dX1_init_45 : decode cX1_init 45 = .ok (.bipush 14, 2) := by decide +kernel
theorem dX1_init_47 : decode cX1_init 47 = .ok (.newarray .int, 2) := by decide +kernel
theorem dX1_init_49 : decode cX1_init 49 = .ok (.putfield 27, 3) := by decide +kernel
theorem dX1_init_52 : decode cX1_init 52 = .ok (.aload_n 0, 1) := by decide +kernel
theorem dX1_init_53 : decode cX1_init 53 = .ok (.bipush 14, 2) := by decide +kernel
theorem dX1_init_55 : decode cX1_init 55 = .ok (.newarray .int, 2) := by decide +kernel
theorem dX1_init_57 : decode cX1_init 57 = .ok (.putfield 30, 3) := by decide +kernel
theorem dX1_init_60 : decode cX1_init 60 = .ok (.aload_n 0, 1) := by decide +kernel
theorem dX1_init_61 : decode cX1_init 61 = .ok (.bipush 14, 2) := by decide +kernel
theorem dX1_init_63 : decode cX1_init 63 = .ok (.newarray .int, 2) := by decide +kernel
theorem dX1_init_65 : decode cX1_init 65 = .ok (.putfield 33, 3) := by decide +kernel
theorem dX1_init_68 : decode cX1_init 68 = .ok (.aload_n 0, 1) := by decide +kernel
theorem dX1_init_69 : decode cX1_init 69 = .ok (.bipush 10, 2) := by decide +kernel
theorem dX1_init_71 : decode cX1_init 71 = .ok (.putfield 36, 3) := by decide +kernel
theorem dX1_init_74 : decode cX1_init 74 = .ok (.iconst 0, 1) := by decide +kernel
theorem dX1_init_75 : decode cX1_init 75 = .ok (.istore_n 1, 1) := by decide +kernel
theorem dX1_init_76 : decode cX1_init 76 = .ok (.iload_n 1, 1) := by decide +kernel
theorem dX1_init_77 : decode cX1_init 77 = .ok (.bipush 8, 2) := by decide +kernel
theorem dX1_init_79 : decode cX1_init 79 = .ok (.if_icmp .ge 24, 3) := by decide +kernel
theorem dX1_init_82 : decode cX1_init 82 = .ok (.aload_n 0, 1) := by decide +kernel
theorem dX1_init_83 : decode cX1_init 83 = .ok (.getfield 9, 3) := by decide +kernel
theorem dX1_init_86 : decode cX1_init 86 = .ok (.iload_n 1, 1) := by decide +kernel
theorem dX1_init_87 : decode cX1_init 87 = .ok (.bipush 10, 2) := by decide +kernel
theorem dX1_init_89 : decode cX1_init 89 = .ok (.iastore, 1) := by decide +kernel
theorem dX1_init_90 : decode cX1_init 90 = .ok (.aload_n 0, 1) := by decide +kernel
theorem dX1_init_91 : decode cX1_init 91 = .ok (.getfield 15, 3) := by decide +kernel
theorem dX1_init_94 : decode cX1_init 94 = .ok (.iload_n 1, 1) := by decide +kernel
theorem dX1_init_95 : decode cX1_init 95 = .ok (.iconst 1, 1) := by decide +kernel
theorem dX1_init_96 : decode cX1_init 96 = .ok (.iastore, 1) := by decide +kernel
theorem dX1_init_97 : decode cX1_init 97 = .ok (.iinc 1 1, 3) := by decide +kernel
theorem dX1_init_100 : decode cX1_init 100 = .ok (.goto (-24), 3) := by decide +kernel
theorem dX1_init_103 : decode cX1_init 103 = .ok (.return_, 1) := by decide +kernel
theorem dX1_copyFrom_0 : decode cX1_copyFrom 0 = .ok (.iconst 0, 1) := by decide +kernel
theorem dX1_copyFrom_1 : decode cX1_copyFrom 1 = .ok (.istore_n 2, 1) := by decide +kernel
theorem dX1_copyFrom_2 : decode cX1_copyFrom 2 = .ok (.iload_n 2, 1) := by decide +kernel
theorem dX1_copyFrom_3 : decode cX1_copyFrom 3 = .ok (.bipush 8, 2) := by decide +kernel
theorem dX1_copyFrom_5 : decode cX1_copyFrom 5 = .ok (.if_icmp .ge 57, 3) := by decide +kernel
theorem dX1_copyFrom_8 : decode cX1_copyFrom 8 = .ok (.aload_n 0, 1) := by decide +kernel
theorem dX1_copyFrom_9 : decode cX1_copyFrom 9 = .ok (.getfield 9, 3) := by decide +kernel
theorem dX1_copyFrom_12 : decode cX1_copyFrom 12 = .ok (.iload_n 2, 1) := by decide +kernel
theorem dX1_copyFrom_13 : decode cX1_copyFrom 13 = .ok (.aload_n 1, 1) := by decide +kernel
theorem dX1_copyFrom_14 : decode cX1_copyFrom 14 = .ok (.getfield 9, 3) := by decide +kernel
theorem dX1_copyFrom_17 : decode cX1_copyFrom 17 = .ok (.iload_n 2, 1) := by decide +kernel
theorem dX1_copyFrom_18 : decode cX1_copyFrom 18 = .ok (.iaload, 1) := by decide +kernel
theorem dX1_copyFrom_19 : decode cX1_copyFrom 19 = .ok (.iastore, 1) := by decide +kernel
theorem dX1_copyFrom_20 : decode cX1_copyFrom 20 = .ok (.aload_n 0, 1) := by decide +kernel
theorem dX1_copyFrom_21 : decode cX1_copyFrom 21 = .ok (.getfield 15, 3) := by decide +kernel
theorem dX1_copyFrom_24 : decode cX1_copyFrom 24 = .ok (.iload_n 2, 1) := by decide +kernel
theorem dX1_copyFrom_25 : decode cX1_copyFrom 25 = .ok (.aload_n 1, 1) := by decide +kernel
theorem dX1_copyFrom_26 : decode cX1_copyFrom 26 = .ok (.getfield 15, 3) := by decide +kernel
theorem dX1_copyFrom_29 : decode cX1_copyFrom 29 = .ok (.iload_n 2, 1) := by decide +kernel
theorem dX1_copyFrom_30 : decode cX1_copyFrom 30 = .ok (.iaload, 1) := by decide +kernel
theorem dX1_copyFrom_31 : decode cX1_copyFrom 31 = .ok (.iastore, 1) := by decide +kernel
theorem dX1_copyFrom_32 : decode cX1_copyFrom 32 = .ok (.aload_n 0, 1) := by decide +kernel
theorem dX1_copyFrom_33 : decode cX1_copyFrom 33 = .ok (.getfield 18, 3) := by decide +kernel
theorem dX1_copyFrom_36 : decode cX1_copyFrom 36 = .ok (.iload_n 2, 1) := by decide +kernel
theorem dX1_copyFrom_37 : decode cX1_copyFrom 37 = .ok (.aload_n 1, 1) := by decide +kernel
theorem dX1_copyFrom_38 : decode cX1_copyFrom 38 = .ok (.getfield 18, 3) := by decide +kernel
theorem dX1_copyFrom_41 : decode cX1_copyFrom 41 = .ok (.iload_n 2, 1) := by decide +kernel
theorem dX1_copyFrom_42 : decode cX1_copyFrom 42 = .ok (.iaload, 1) := by decide +kernel
theorem dX1_copyFrom_43 : decode cX1_copyFrom 43 = .ok (.iastore, 1) := by decide +kernel
theorem dX1_copyFrom_44 : decode cX1_copyFrom 44 = .ok (.aload_n 0, 1) := by decide +kernel
theorem dX1_copyFrom_45 : decode cX1_copyFrom 45 = .ok (.getfield 21, 3) := by decide +kernel
theorem dX1_copyFrom_48 : decode cX1_copyFrom 48 = .ok (.iload_n 2, 1) := by decide +kernel
theorem dX1_copyFrom_49 : decode cX1_copyFrom 49 = .ok (.aload_n 1, 1) := by decide +kernel
theorem dX1_copyFrom_50 : decode cX1_copyFrom 50 = .ok (.getfield 21, 3) := by decide +kernel
theorem dX1_copyFrom_53 : decode cX1_copyFrom 53 = .ok (.iload_n 2, 1) := by decide +kernel
theorem dX1_copyFrom_54 : decode cX1_copyFrom 54 = .ok (.iaload, 1) := by decide +kernel
theorem dX1_copyFrom_55 : decode cX1_copyFrom 55 = .ok (.iastore, 1) := by decide +kernel
theorem dX1_copyFrom_56 : decode cX1_copyFrom 56 = .ok (.iinc 2 1, 3) := by decide +kernel
theorem dX1_copyFrom_59 : decode cX1_copyFrom 59 = .ok (.goto (-57), 3) := by decide +kernel
theorem dX1_copyFrom_62 : decode cX1_copyFrom 62 = .ok (.iconst 0, 1) := by decide +kernel
theorem dX1_copyFrom_63 : decode cX1_copyFrom 63 = .ok (.istore_n 2, 1) := by decide +kernel
theorem dX1_copyFrom_64 : decode cX1_copyFrom 64 = .ok (.iload_n 2, 1) := by decide +kernel
theorem dX1_copyFrom_65 : decode cX1_copyFrom 65 = .ok (.bipush 14, 2) := by decide +kernel
theorem dX1_copyFrom_67 : decode cX1_copyFrom 67 = .ok (.if_icmp .ge 57, 3) := by decide +kernel
theorem dX1_copyFrom_70 : decode cX1_copyFrom 70 = .ok (.aload_n 0, 1) := by decide +kernel
theorem dX1_copyFrom_71 : decode cX1_copyFrom 71 = .ok (.getfield 24, 3) := by decide +kernel
theorem dX1_copyFrom_74 : decode cX1_copyFrom 74 = .ok (.iload_n 2, 1) := by decide +kernel
theorem dX1_copyFrom_75 : decode cX1_copyFrom 75 = .ok (.aload_n 1, 1) := by decide +kernel
theorem dX1_copyFrom_76 : decode cX1_copyFrom 76 = .ok (.getfield 24, 3) := by decide +kernel
theorem dX1_copyFrom_79 : decode cX1_copyFrom 79 = .ok (.iload_n 2, 1) := by decide +kernel
theorem dX1_copyFrom_80 : decode cX1_copyFrom 80 = .ok (.iaload, 1) := by decide +kernel
theorem dX1_copyFrom_81 : decode cX1_copyFrom 81 = .ok (.iastore, 1) := by decide +kernel
theorem dX1_copyFrom_82 : decode cX1_copyFrom 82 = .ok (.aload_n 0, 1) := by decide +kernel
theorem dX1_copyFrom_83 : decode cX1_copyFrom 83 = .ok (.getfield 27, 3) := by decide +kernel
theorem dX1_copyFrom_86 : decode cX1_copyFrom 86 = .ok (.iload_n 2, 1) := by decide +kernel
theorem dX1_copyFrom_87 : decode cX1_copyFrom 87 = .ok (.aload_n 1, 1) := by decide +kernel
theorem dX1_copyFrom_88 : decode cX1_copyFrom 88 = .ok (.getfield 27, 3) := by decide +kernel
theorem dX1_copyFrom_91 : decode cX1_copyFrom 91 = .ok (.iload_n 2, 1) := by decide +kernel
theorem dX1_copyFrom_92 : decode cX1_copyFrom 92 = .ok (.iaload, 1) := by decide +kernel
theorem dX1_copyFrom_93 : decode cX1_copyFrom 93 = .ok (.iastore, 1) := by decide +kernel
theorem dX1_copyFrom_94 : decode cX1_copyFrom 94 = .ok (.aload_n 0, 1) := by decide +kernel
theorem dX1_copyFrom_95 : decode cX1_copyFrom 95 = .ok (.getfield 30, 3) := by decide +kernel
theorem dX1_copyFrom_98 : decode cX1_copyFrom 98 = .ok (.iload_n 2, 1) := by decide +kernel
theorem dX1_copyFrom_99 : decode cX1_copyFrom 99 = .ok (.aload_n 1, 1) := by decide +kernel
theorem dX1_copyFrom_100 : decode cX1_copyFrom 100 = .ok (.getfield 30, 3) := by decide +kernel
theorem dX1_copyFrom_103 : decode cX1_copyFrom 103 = .ok (.iload_n 2, 1) := by decide +kernel
theorem dX1_copyFrom_104 : decode cX1_copyFrom 104 = .ok (.iaload, 1) := by decide +kernel
theorem dX1_copyFrom_105 : decode cX1_copyFrom 105 = .ok (.iastore, 1) := by decide +kernel
theorem dX1_copyFrom_106 : decode cX1_copyFrom 106 = .ok (.aload_n 0, 1) := by decide +kernel
theorem dX1_copyFrom_107 : decode cX1_copyFrom 107 = .ok (.getfield 33, 3) := by decide +kernel
theorem dX1_copyFrom_110 : decode cX1_copyFrom 110 = .ok (.iload_n 2, 1) := by decide +kernel
theorem dX1_copyFrom_111 : decode cX1_copyFrom 111 = .ok (.aload_n 1, 1) := by decide +kernel
theorem dX1_copyFrom_112 : decode cX1_copyFrom 112 = .ok (.getfield 33, 3) := by decide +kernel
theorem dX1_copyFrom_115 : decode cX1_copyFrom 115 = .ok (.iload_n 2, 1) := by decide +kernel
theorem dX1_copyFrom_116 : decode cX1_copyFrom 116 = .ok (.iaload, 1) := by decide +kernel
theorem dX1_copyFrom_117 : decode cX1_copyFrom 117 = .ok (.iastore, 1) := by decide +kernel
theorem dX1_copyFrom_118 : decode cX1_copyFrom 118 = .ok (.iinc 2 1, 3) := by decide +kernel
theorem dX1_copyFrom_121 : decode cX1_copyFrom 121 = .ok (.goto (-57), 3) := by decide +kernel
theorem dX1_copyFrom_124 : decode cX1_copyFrom 124 = .ok (.aload_n 0, 1) := by decide +kernel
theorem dX1_copyFrom_125 : decode cX1_copyFrom 125 = .ok (.aload_n 1, 1) := by decide +kernel
theorem dX1_copyFrom_126 : decode cX1_copyFrom 126 = .ok (.getfield 40, 3) := by decide +kernel
theorem dX1_copyFrom_129 : decode cX1_copyFrom 129 = .ok (.putfield 40, 3) := by decide +kernel
theorem dX1_copyFrom_132 : decode cX1_copyFrom 132 = .ok (.aload_n 0, 1) := by decide +kernel
theorem dX1_copyFrom_133 : decode cX1_copyFrom 133 = .ok (.aload_n 1, 1) := by decide +kernel
theorem dX1_copyFrom_134 : decode cX1_copyFrom 134 = .ok (.getfield 43, 3) := by decide +kernel
theorem dX1_copyFrom_137 : decode cX1_copyFrom 137 = .ok (.putfield 43, 3) := by decide +kernel
theorem dX1_copyFrom_140 : decode cX1_copyFrom 140 = .ok (.aload_n 0, 1) := by decide +kernel
theorem dX1_copyFrom_141 : decode cX1_copyFrom 141 = .ok (.aload_n 1, 1) := by decide +kernel
theorem dX1_copyFrom_142 : decode cX1_copyFrom 142 = .ok (.getfield 36, 3) := by decide +kernel
theorem dX1_copyFrom_145 : decode cX1_copyFrom 145 = .ok (.putfield 36, 3) := by decide +kernel
theorem dX1_copyFrom_148 : decode cX1_copyFrom 148 = .ok (.aload_n 0, 1) := by decide +kernel
theorem dX1_copyFrom_149 : decode cX1_copyFrom 149 = .ok (.aload_n 1, 1) := by decide +kernel
theorem dX1_copyFrom_150 : decode cX1_copyFrom 150 = .ok (.getfield 46, 3) := by decide +kernel
theorem dX1_copyFrom_153 : decode cX1_copyFrom 153 = .ok (.putfield 46, 3) := by decide +kernel
theorem dX1_copyFrom_156 : decode cX1_copyFrom 156 = .ok (.aload_n 0, 1) := by decide +kernel
theorem dX1_copyFrom_157 : decode cX1_copyFrom 157 = .ok (.aload_n 1, 1) := by decide +kernel
theorem dX1_copyFrom_158 : decode cX1_copyFrom 158 = .ok (.getfield 49, 3) := by decide +kernel
theorem dX1_copyFrom_161 : decode cX1_copyFrom 161 = .ok (.putfield 49, 3) := by decide +kernel
theorem dX1_copyFrom_164 : decode cX1_copyFrom 164 = .ok (.aload_n 0, 1) := by decide +kernel
theorem dX1_copyFrom_165 : decode cX1_copyFrom 165 = .ok (.aload_n 1, 1) := by decide +kernel
theorem dX1_copyFrom_166 : decode cX1_copyFrom 166 = .ok (.getfield 52, 3) := by decide +kernel
theorem dX1_copyFrom_169 : decode cX1_copyFrom 169 = .ok (.putfield 52, 3) := by decide +kernel
theorem dX1_copyFrom_172 : decode cX1_copyFrom 172 = .ok (.return_, 1) := by decide +kernel
theorem dX1_isNested_0 : decode cX1_isNested 0 = .ok (.aload_n 0, 1) := by decide +kernel
theorem dX1_isNested_1 : decode cX1_isNested 1 = .ok (.getfield 43, 3) := by decide +kernel
theorem dX1_isNested_4 : decode cX1_isNested 4 = .ok (.aload_n 0, 1) := by decide +kernel
theorem dX1_isNested_5 : decode cX1_isNested 5 = .ok (.getfield 18, 3) := by decide +kernel
theorem dX1_isNested_8 : decode cX1_isNested 8 = .ok (.iload_n 1, 1) := by decide +kernel
theorem dX1_isNested_9 : decode cX1_isNested 9 = .ok (.iaload, 1) := by decide +kernel
theorem dX1_isNested_10 : decode cX1_isNested 10 = .ok (.if_icmp .ge 7, 3) := by decide +kernel
theorem dX1_isNested_13 : decode cX1_isNested 13 = .ok (.iconst 1, 1) := by decide +kernel
theorem dX1_isNested_14 : decode cX1_isNested 14 = .ok (.goto 4, 3) := by decide +kernel
theorem dX1_isNested_17 : decode cX1_isNested 17 = .ok (.iconst 0, 1) := by decide +kernel
theorem dX1_isNested_18 : decode cX1_isNested 18 = .ok (.ireturn, 1) := by decide +kernel
theorem dX1_countNested_0 : decode cX1_countNested 0 = .ok (.iconst 0, 1) := by decide +kernel
theorem dX1_countNested_1 : decode cX1_countNested 1 = .ok (.istore_n 1, 1) := by decide +kernel
theorem dX1_countNested_2 : decode cX1_countNested 2 = .ok (.iconst 0, 1) := by decide +kernel
theorem dX1_countNested_3 : decode cX1_countNested 3 = .ok (.istore_n 2, 1) := by decide +kernel
theorem dX1_countNested_4 : decode cX1_countNested 4 = .ok (.iload_n 2, 1) := by decide +kernel
theorem dX1_countNested_5 : decode cX1_countNested 5 = .ok (.bipush 8, 2) := by decide +kernel
theorem dX1_countNested_7 : decode cX1_countNested 7 = .ok (.if_icmp .ge 25, 3) := by decide +kernel
theorem dX1_countNested_10 : decode cX1_countNested 10 = .ok (.iload_n 1, 1) := by decide +kernel
theorem dX1_countNested_11 : decode cX1_countNested 11 = .ok (.aload_n 0, 1) := by decide +kernel
theorem dX1_countNested_12 : decode cX1_countNested 12 = .ok (.iload_n 2, 1) := by decide +kernel
theorem dX1_countNested_13 : decode cX1_countNested 13 = .ok (.invokevirtual 55, 3) := by decide +kernel
theorem dX1_countNested_16 : decode cX1_countNested 16 = .ok (.ifCond .eq 7, 3) := by decide +kernel
theorem dX1_countNested_19 : decode cX1_countNested 19 = .ok (.iconst 1, 1) := by decide +kernel
theorem dX1_countNested_20 : decode cX1_countNested 20 = .ok (.goto 4, 3) := by decide +kernel
theorem dX1_countNested_23 : decode cX1_countNested 23 = .ok (.iconst 0, 1) := by decide +kernel
theorem dX1_countNested_24 : decode cX1_countNested 24 = .ok (.iadd, 1) := by decide +kernel
theorem dX1_countNested_25 : decode cX1_countNested 25 = .ok (.istore_n 1, 1) := by decide +kernel
theorem dX1_countNested_26 : decode cX1_countNested 26 = .ok (.iinc 2 1, 3) := by decide +kernel
theorem dX1_countNested_29 : decode cX1_countNested 29 = .ok (.goto (-25), 3) := by decide +kernel
theorem dX1_countNested_32 : decode cX1_countNested 32 = .ok (.iload_n 1, 1) := by decide +kernel
theorem dX1_countNested_33 : decode cX1_countNested 33 = .ok (.ireturn, 1) := by decide +kernel
theorem dX1_heightAfter_0 : decode cX1_heightAfter 0 = .ok (.bipush 99, 2) := by decide +kernel
theorem dX1_heightAfter_2 : decode cX1_heightAfter 2 = .ok (.aload_n 0, 1) := by decide +kernel
theorem dX1_heightAfter_3 : decode cX1_heightAfter 3 = .ok (.getfield 9, 3) := by decide +kernel
theorem dX1_heightAfter_6 : decode cX1_heightAfter 6 = .ok (.iload_n 1, 1) := by decide +kernel
theorem dX1_heightAfter_7 : decode cX1_heightAfter 7 = .ok (.iaload, 1) := by decide +kernel
theorem dX1_heightAfter_8 : decode cX1_heightAfter 8 = .ok (.aload_n 0, 1) := by decide +kernel
theorem dX1_heightAfter_9 : decode cX1_heightAfter 9 = .ok (.getfield 15, 3) := by decide +kernel
theorem dX1_heightAfter_12 : decode cX1_heightAfter 12 = .ok (.iload_n 1, 1) := by decide +kernel
theorem dX1_heightAfter_13 : decode cX1_heightAfter 13 = .ok (.iaload, 1) := by decide +kernel
theorem dX1_heightAfter_14 : decode cX1_heightAfter 14 = .ok (.iload_n 2, 1) := by decide +kernel
theorem dX1_heightAfter_15 : decode cX1_heightAfter 15 = .ok (.imul, 1) := by decide +kernel
theorem dX1_heightAfter_16 : decode cX1_heightAfter 16 = .ok (.iadd, 1) := by decide +kernel
theorem dX1_heightAfter_17 : decode cX1_heightAfter 17 = .ok (.invokestatic 59, 3) := by decide +kernel
theorem dX1_heightAfter_20 : decode cX1_heightAfter 20 = .ok (.ireturn, 1) := by decide +kernel
theorem dX1_heightsAfter_0 : decode cX1_heightsAfter 0 = .ok (.iconst 0, 1) := by decide +kernel
theorem dX1_heightsAfter_1 : decode cX1_heightsAfter 1 = .ok (.istore_n 2, 1) := by decide +kernel
theorem dX1_heightsAfter_2 : decode cX1_heightsAfter 2 = .ok (.iconst 0, 1) := by decide +kernel
theorem dX1_heightsAfter_3 : decode cX1_heightsAfter 3 = .ok (.istore_n 3, 1) := by decide +kernel
theorem dX1_heightsAfter_4 : decode cX1_heightsAfter 4 = .ok (.iload_n 3, 1) := by decide +kernel
theorem dX1_heightsAfter_5 : decode cX1_heightsAfter 5 = .ok (.bipush 8, 2) := by decide +kernel
theorem dX1_heightsAfter_7 : decode cX1_heightsAfter 7 = .ok (.if_icmp .ge 18, 3) := by decide +kernel
theorem dX1_heightsAfter_10 : decode cX1_heightsAfter 10 = .ok (.iload_n 2, 1) := by decide +kernel
theorem dX1_heightsAfter_11 : decode cX1_heightsAfter 11 = .ok (.aload_n 0, 1) := by decide +kernel
theorem dX1_heightsAfter_12 : decode cX1_heightsAfter 12 = .ok (.iload_n 3, 1) := by decide +kernel
theorem dX1_heightsAfter_13 : decode cX1_heightsAfter 13 = .ok (.iload_n 1, 1) := by decide +kernel
theorem dX1_heightsAfter_14 : decode cX1_heightsAfter 14 = .ok (.invokevirtual 65, 3) := by decide +kernel
theorem dX1_heightsAfter_17 : decode cX1_heightsAfter 17 = .ok (.iadd, 1) := by decide +kernel
theorem dX1_heightsAfter_18 : decode cX1_heightsAfter 18 = .ok (.istore_n 2, 1) := by decide +kernel
theorem dX1_heightsAfter_19 : decode cX1_heightsAfter 19 = .ok (.iinc 3 1, 3) := by decide +kernel
theorem dX1_heightsAfter_22 : decode cX1_heightsAfter 22 = .ok (.goto (-18), 3) := by decide +kernel
theorem dX1_heightsAfter_25 : decode cX1_heightsAfter 25 = .ok (.iload_n 2, 1) := by decide +kernel
theorem dX1_heightsAfter_26 : decode cX1_heightsAfter 26 = .ok (.ireturn, 1) := by decide +kernel
theorem dX1_passDay_0 : decode cX1_passDay 0 = .ok (.iconst 0, 1) := by decide +kernel
theorem dX1_passDay_1 : decode cX1_passDay 1 = .ok (.istore_n 1, 1) := by decide +kernel
theorem dX1_passDay_2 : decode cX1_passDay 2 = .ok (.iload_n 1, 1) := by decide +kernel
theorem dX1_passDay_3 : decode cX1_passDay 3 = .ok (.bipush 8, 2) := by decide +kernel
theorem dX1_passDay_5 : decode cX1_passDay 5 = .ok (.if_icmp .ge 21, 3) := by decide +kernel
theorem dX1_passDay_8 : decode cX1_passDay 8 = .ok (.aload_n 0, 1) := by decide +kernel
theorem dX1_passDay_9 : decode cX1_passDay 9 = .ok (.getfield 9, 3) := by decide +kernel
theorem dX1_passDay_12 : decode cX1_passDay 12 = .ok (.iload_n 1, 1) := by decide +kernel
theorem dX1_passDay_13 : decode cX1_passDay 13 = .ok (.aload_n 0, 1) := by decide +kernel
theorem dX1_passDay_14 : decode cX1_passDay 14 = .ok (.iload_n 1, 1) := by decide +kernel
theorem dX1_passDay_15 : decode cX1_passDay 15 = .ok (.iconst 1, 1) := by decide +kernel
theorem dX1_passDay_16 : decode cX1_passDay 16 = .ok (.invokevirtual 65, 3) := by decide +kernel
theorem dX1_passDay_19 : decode cX1_passDay 19 = .ok (.iastore, 1) := by decide +kernel
theorem dX1_passDay_20 : decode cX1_passDay 20 = .ok (.iinc 1 1, 3) := by decide +kernel
theorem dX1_passDay_23 : decode cX1_passDay 23 = .ok (.goto (-21), 3) := by decide +kernel
theorem dX1_passDay_26 : decode cX1_passDay 26 = .ok (.aload_n 0, 1) := by decide +kernel
theorem dX1_passDay_27 : decode cX1_passDay 27 = .ok (.dup, 1) := by decide +kernel
theorem dX1_passDay_28 : decode cX1_passDay 28 = .ok (.getfield 43, 3) := by decide +kernel
theorem dX1_passDay_31 : decode cX1_passDay 31 = .ok (.iconst 1, 1) := by decide +kernel
theorem dX1_passDay_32 : decode cX1_passDay 32 = .ok (.iadd, 1) := by decide +kernel
theorem dX1_passDay_33 : decode cX1_passDay 33 = .ok (.putfield 43, 3) := by decide +kernel
theorem dX1_passDay_36 : decode cX1_passDay 36 = .ok (.return_, 1) := by decide +kernel
theorem dX1_cutOff_0 : decode cX1_cutOff 0 = .ok (.aload_n 0, 1) := by decide +kernel
theorem dX1_cutOff_1 : decode cX1_cutOff 1 = .ok (.getfield 9, 3) := by decide +kernel
theorem dX1_cutOff_4 : decode cX1_cutOff 4 = .ok (.iload_n 1, 1) := by decide +kernel
theorem dX1_cutOff_5 : decode cX1_cutOff 5 = .ok (.dup2, 1) := by decide +kernel
theorem dX1_cutOff_6 : decode cX1_cutOff 6 = .ok (.iaload, 1) := by decide +kernel
theorem dX1_cutOff_7 : decode cX1_cutOff 7 = .ok (.iload_n 2, 1) := by decide +kernel
theorem dX1_cutOff_8 : decode cX1_cutOff 8 = .ok (.isub, 1) := by decide +kernel
theorem dX1_cutOff_9 : decode cX1_cutOff 9 = .ok (.iastore, 1) := by decide +kernel
theorem dX1_cutOff_10 : decode cX1_cutOff 10 = .ok (.aload_n 0, 1) := by decide +kernel
theorem dX1_cutOff_11 : decode cX1_cutOff 11 = .ok (.getfield 21, 3) := by decide +kernel
theorem dX1_cutOff_14 : decode cX1_cutOff 14 = .ok (.iload_n 1, 1) := by decide +kernel
theorem dX1_cutOff_15 : decode cX1_cutOff 15 = .ok (.dup2, 1) := by decide +kernel
theorem dX1_cutOff_16 : decode cX1_cutOff 16 = .ok (.iaload, 1) := by decide +kernel
theorem dX1_cutOff_17 : decode cX1_cutOff 17 = .ok (.iload_n 2, 1) := by decide +kernel
theorem dX1_cutOff_18 : decode cX1_cutOff 18 = .ok (.iadd, 1) := by decide +kernel
theorem dX1_cutOff_19 : decode cX1_cutOff 19 = .ok (.iastore, 1) := by decide +kernel
theorem dX1_cutOff_20 : decode cX1_cutOff 20 = .ok (.aload_n 0, 1) := by decide +kernel
theorem dX1_cutOff_21 : decode cX1_cutOff 21 = .ok (.dup, 1) := by decide +kernel
theorem dX1_cutOff_22 : decode cX1_cutOff 22 = .ok (.getfield 52, 3) := by decide +kernel
theorem dX1_cutOff_25 : decode cX1_cutOff 25 = .ok (.iconst 1, 1) := by decide +kernel
theorem dX1_cutOff_26 : decode cX1_cutOff 26 = .ok (.iadd, 1) := by decide +kernel
theorem dX1_cutOff_27 : decode cX1_cutOff 27 = .ok (.putfield 52, 3) := by decide +kernel
theorem dX1_cutOff_30 : decode cX1_cutOff 30 = .ok (.return_, 1) := by decide +kernel
theorem dX1_addTreaty_0 : decode cX1_addTreaty 0 = .ok (.aload_n 0, 1) := by decide +kernel
theorem dX1_addTreaty_1 : decode cX1_addTreaty 1 = .ok (.getfield 24, 3) := by decide +kernel
theorem dX1_addTreaty_4 : decode cX1_addTreaty 4 = .ok (.aload_n 0, 1) := by decide +kernel
theorem dX1_addTreaty_5 : decode cX1_addTreaty 5 = .ok (.getfield 40, 3) := by decide +kernel
theorem dX1_addTreaty_8 : decode cX1_addTreaty 8 = .ok (.iload_n 1, 1) := by decide +kernel
theorem dX1_addTreaty_9 : decode cX1_addTreaty 9 = .ok (.iastore, 1) := by decide +kernel
theorem dX1_addTreaty_10 : decode cX1_addTreaty 10 = .ok (.aload_n 0, 1) := by decide +kernel
theorem dX1_addTreaty_11 : decode cX1_addTreaty 11 = .ok (.getfield 27, 3) := by decide +kernel
theorem dX1_addTreaty_14 : decode cX1_addTreaty 14 = .ok (.aload_n 0, 1) := by decide +kernel
theorem dX1_addTreaty_15 : decode cX1_addTreaty 15 = .ok (.getfield 40, 3) := by decide +kernel
theorem dX1_addTreaty_18 : decode cX1_addTreaty 18 = .ok (.iload_n 2, 1) := by decide +kernel
theorem dX1_addTreaty_19 : decode cX1_addTreaty 19 = .ok (.iastore, 1) := by decide +kernel
theorem dX1_addTreaty_20 : decode cX1_addTreaty 20 = .ok (.aload_n 0, 1) := by decide +kernel
theorem dX1_addTreaty_21 : decode cX1_addTreaty 21 = .ok (.getfield 30, 3) := by decide +kernel
theorem dX1_addTreaty_24 : decode cX1_addTreaty 24 = .ok (.aload_n 0, 1) := by decide +kernel
theorem dX1_addTreaty_25 : decode cX1_addTreaty 25 = .ok (.getfield 40, 3) := by decide +kernel
theorem dX1_addTreaty_28 : decode cX1_addTreaty 28 = .ok (.iload_n 3, 1) := by decide +kernel
theorem dX1_addTreaty_29 : decode cX1_addTreaty 29 = .ok (.iastore, 1) := by decide +kernel
theorem dX1_addTreaty_30 : decode cX1_addTreaty 30 = .ok (.aload_n 0, 1) := by decide +kernel
theorem dX1_addTreaty_31 : decode cX1_addTreaty 31 = .ok (.getfield 33, 3) := by decide +kernel
theorem dX1_addTreaty_34 : decode cX1_addTreaty 34 = .ok (.aload_n 0, 1) := by decide +kernel
theorem dX1_addTreaty_35 : decode cX1_addTreaty 35 = .ok (.getfield 40, 3) := by decide +kernel
theorem dX1_addTreaty_38 : decode cX1_addTreaty 38 = .ok (.iconst 0, 1) := by decide +kernel
theorem dX1_addTreaty_39 : decode cX1_addTreaty 39 = .ok (.iastore, 1) := by decide +kernel
theorem dX1_addTreaty_40 : decode cX1_addTreaty 40 = .ok (.aload_n 0, 1) := by decide +kernel
theorem dX1_addTreaty_41 : decode cX1_addTreaty 41 = .ok (.dup, 1) := by decide +kernel
theorem dX1_addTreaty_42 : decode cX1_addTreaty 42 = .ok (.getfield 40, 3) := by decide +kernel
theorem dX1_addTreaty_45 : decode cX1_addTreaty 45 = .ok (.iconst 1, 1) := by decide +kernel
theorem dX1_addTreaty_46 : decode cX1_addTreaty 46 = .ok (.iadd, 1) := by decide +kernel
theorem dX1_addTreaty_47 : decode cX1_addTreaty 47 = .ok (.putfield 40, 3) := by decide +kernel
theorem dX1_addTreaty_50 : decode cX1_addTreaty 50 = .ok (.aload_n 0, 1) := by decide +kernel
theorem dX1_addTreaty_51 : decode cX1_addTreaty 51 = .ok (.dup, 1) := by decide +kernel
theorem dX1_addTreaty_52 : decode cX1_addTreaty 52 = .ok (.getfield 46, 3) := by decide +kernel
theorem dX1_addTreaty_55 : decode cX1_addTreaty 55 = .ok (.iconst 1, 1) := by decide +kernel
theorem dX1_addTreaty_56 : decode cX1_addTreaty 56 = .ok (.iadd, 1) := by decide +kernel
theorem dX1_addTreaty_57 : decode cX1_addTreaty 57 = .ok (.putfield 46, 3) := by decide +kernel
theorem dX1_addTreaty_60 : decode cX1_addTreaty 60 = .ok (.return_, 1) := by decide +kernel
theorem dX1_removeTreaty_0 : decode cX1_removeTreaty 0 = .ok (.iload_n 1, 1) := by decide +kernel
theorem dX1_removeTreaty_1 : decode cX1_removeTreaty 1 = .ok (.iconst 1, 1) := by decide +kernel
theorem dX1_removeTreaty_2 : decode cX1_removeTreaty 2 = .ok (.iadd, 1) := by decide +kernel
theorem dX1_removeTreaty_3 : decode cX1_removeTreaty 3 = .ok (.istore_n 2, 1) := by decide +kernel
theorem dX1_removeTreaty_4 : decode cX1_removeTreaty 4 = .ok (.iload_n 2, 1) := by decide +kernel
theorem dX1_removeTreaty_5 : decode cX1_removeTreaty 5 = .ok (.aload_n 0, 1) := by decide +kernel
theorem dX1_removeTreaty_6 : decode cX1_removeTreaty 6 = .ok (.getfield 40, 3) := by decide +kernel
theorem dX1_removeTreaty_9 : decode cX1_removeTreaty 9 = .ok (.if_icmp .ge 65, 3) := by decide +kernel
theorem dX1_removeTreaty_12 : decode cX1_removeTreaty 12 = .ok (.aload_n 0, 1) := by decide +kernel
theorem dX1_removeTreaty_13 : decode cX1_removeTreaty 13 = .ok (.getfield 24, 3) := by decide +kernel
theorem dX1_removeTreaty_16 : decode cX1_removeTreaty 16 = .ok (.iload_n 2, 1) := by decide +kernel
theorem dX1_removeTreaty_17 : decode cX1_removeTreaty 17 = .ok (.iconst 1, 1) := by decide +kernel
theorem dX1_removeTreaty_18 : decode cX1_removeTreaty 18 = .ok (.isub, 1) := by decide +kernel
theorem dX1_removeTreaty_19 : decode cX1_removeTreaty 19 = .ok (.aload_n 0, 1) := by decide +kernel
theorem dX1_removeTreaty_20 : decode cX1_removeTreaty 20 = .ok (.getfield 24, 3) := by decide +kernel
theorem dX1_removeTreaty_23 : decode cX1_removeTreaty 23 = .ok (.iload_n 2, 1) := by decide +kernel
theorem dX1_removeTreaty_24 : decode cX1_removeTreaty 24 = .ok (.iaload, 1) := by decide +kernel
theorem dX1_removeTreaty_25 : decode cX1_removeTreaty 25 = .ok (.iastore, 1) := by decide +kernel
theorem dX1_removeTreaty_26 : decode cX1_removeTreaty 26 = .ok (.aload_n 0, 1) := by decide +kernel
theorem dX1_removeTreaty_27 : decode cX1_removeTreaty 27 = .ok (.getfield 27, 3) := by decide +kernel
theorem dX1_removeTreaty_30 : decode cX1_removeTreaty 30 = .ok (.iload_n 2, 1) := by decide +kernel
theorem dX1_removeTreaty_31 : decode cX1_removeTreaty 31 = .ok (.iconst 1, 1) := by decide +kernel
theorem dX1_removeTreaty_32 : decode cX1_removeTreaty 32 = .ok (.isub, 1) := by decide +kernel
theorem dX1_removeTreaty_33 : decode cX1_removeTreaty 33 = .ok (.aload_n 0, 1) := by decide +kernel
theorem dX1_removeTreaty_34 : decode cX1_removeTreaty 34 = .ok (.getfield 27, 3) := by decide +kernel
theorem dX1_removeTreaty_37 : decode cX1_removeTreaty 37 = .ok (.iload_n 2, 1) := by decide +kernel
theorem dX1_removeTreaty_38 : decode cX1_removeTreaty 38 = .ok (.iaload, 1) := by decide +kernel
theorem dX1_removeTreaty_39 : decode cX1_removeTreaty 39 = .ok (.iastore, 1) := by decide +kernel
theorem dX1_removeTreaty_40 : decode cX1_removeTreaty 40 = .ok (.aload_n 0, 1) := by decide +kernel
theorem dX1_removeTreaty_41 : decode cX1_removeTreaty 41 = .ok (.getfield 30, 3) := by decide +kernel
theorem dX1_removeTreaty_44 : decode cX1_removeTreaty 44 = .ok (.iload_n 2, 1) := by decide +kernel
theorem dX1_removeTreaty_45 : decode cX1_removeTreaty 45 = .ok (.iconst 1, 1) := by decide +kernel
theorem dX1_removeTreaty_46 : decode cX1_removeTreaty 46 = .ok (.isub, 1) := by decide +kernel
theorem dX1_removeTreaty_47 : decode cX1_removeTreaty 47 = .ok (.aload_n 0, 1) := by decide +kernel
theorem dX1_removeTreaty_48 : decode cX1_removeTreaty 48 = .ok (.getfield 30, 3) := by decide +kernel
theorem dX1_removeTreaty_51 : decode cX1_removeTreaty 51 = .ok (.iload_n 2, 1) := by decide +kernel
theorem dX1_removeTreaty_52 : decode cX1_removeTreaty 52 = .ok (.iaload, 1) := by decide +kernel
theorem dX1_removeTreaty_53 : decode cX1_removeTreaty 53 = .ok (.iastore, 1) := by decide +kernel
theorem dX1_removeTreaty_54 : decode cX1_removeTreaty 54 = .ok (.aload_n 0, 1) := by decide +kernel
theorem dX1_removeTreaty_55 : decode cX1_removeTreaty 55 = .ok (.getfield 33, 3) := by decide +kernel
theorem dX1_removeTreaty_58 : decode cX1_removeTreaty 58 = .ok (.iload_n 2, 1) := by decide +kernel
theorem dX1_removeTreaty_59 : decode cX1_removeTreaty 59 = .ok (.iconst 1, 1) := by decide +kernel
theorem dX1_removeTreaty_60 : decode cX1_removeTreaty 60 = .ok (.isub, 1) := by decide +kernel
theorem dX1_removeTreaty_61 : decode cX1_removeTreaty 61 = .ok (.aload_n 0, 1) := by decide +kernel
theorem dX1_removeTreaty_62 : decode cX1_removeTreaty 62 = .ok (.getfield 33, 3) := by decide +kernel
theorem dX1_removeTreaty_65 : decode cX1_removeTreaty 65 = .ok (.iload_n 2, 1) := by decide +kernel
theorem dX1_removeTreaty_66 : decode cX1_removeTreaty 66 = .ok (.iaload, 1) := by decide +kernel
theorem dX1_removeTreaty_67 : decode cX1_removeTreaty 67 = .ok (.iastore, 1) := by decide +kernel
theorem dX1_removeTreaty_68 : decode cX1_removeTreaty 68 = .ok (.iinc 2 1, 3) := by decide +kernel
theorem dX1_removeTreaty_71 : decode cX1_removeTreaty 71 = .ok (.goto (-67), 3) := by decide +kernel
theorem dX1_removeTreaty_74 : decode cX1_removeTreaty 74 = .ok (.aload_n 0, 1) := by decide +kernel
theorem dX1_removeTreaty_75 : decode cX1_removeTreaty 75 = .ok (.dup, 1) := by decide +kernel
theorem dX1_removeTreaty_76 : decode cX1_removeTreaty 76 = .ok (.getfield 40, 3) := by decide +kernel
theorem dX1_removeTreaty_79 : decode cX1_removeTreaty 79 = .ok (.iconst 1, 1) := by decide +kernel
theorem dX1_removeTreaty_80 : decode cX1_removeTreaty 80 = .ok (.isub, 1) := by decide +kernel
theorem dX1_removeTreaty_81 : decode cX1_removeTreaty 81 = .ok (.putfield 40, 3) := by decide +kernel
theorem dX1_removeTreaty_84 : decode cX1_removeTreaty 84 = .ok (.return_, 1) := by decide +kernel
theorem dX1_isAbout_0 : decode cX1_isAbout 0 = .ok (.iload_n 2, 1) := by decide +kernel
theorem dX1_isAbout_1 : decode cX1_isAbout 1 = .ok (.iconst (-1), 1) := by decide +kernel
theorem dX1_isAbout_2 : decode cX1_isAbout 2 = .ok (.if_icmp .eq 23, 3) := by decide +kernel
theorem dX1_isAbout_5 : decode cX1_isAbout 5 = .ok (.aload_n 0, 1) := by decide +kernel
theorem dX1_isAbout_6 : decode cX1_isAbout 6 = .ok (.getfield 24, 3) := by decide +kernel
theorem dX1_isAbout_9 : decode cX1_isAbout 9 = .ok (.iload_n 1, 1) := by decide +kernel
theorem dX1_isAbout_10 : decode cX1_isAbout 10 = .ok (.iaload, 1) := by decide +kernel
theorem dX1_isAbout_11 : decode cX1_isAbout 11 = .ok (.iload_n 2, 1) := by decide +kernel
theorem dX1_isAbout_12 : decode cX1_isAbout 12 = .ok (.if_icmp .eq 13, 3) := by decide +kernel
theorem dX1_isAbout_15 : decode cX1_isAbout 15 = .ok (.aload_n 0, 1) := by decide +kernel
theorem dX1_isAbout_16 : decode cX1_isAbout 16 = .ok (.getfield 27, 3) := by decide +kernel
theorem dX1_isAbout_19 : decode cX1_isAbout 19 = .ok (.iload_n 1, 1) := by decide +kernel
theorem dX1_isAbout_20 : decode cX1_isAbout 20 = .ok (.iaload, 1) := by decide +kernel
theorem dX1_isAbout_21 : decode cX1_isAbout 21 = .ok (.iload_n 2, 1) := by decide +kernel
theorem dX1_isAbout_22 : decode cX1_isAbout 22 = .ok (.if_icmp .ne 7, 3) := by decide +kernel
theorem dX1_isAbout_25 : decode cX1_isAbout 25 = .ok (.iconst 1, 1) := by decide +kernel
theorem dX1_isAbout_26 : decode cX1_isAbout 26 = .ok (.goto 4, 3) := by decide +kernel
theorem dX1_isAbout_29 : decode cX1_isAbout 29 = .ok (.iconst 0, 1) := by decide +kernel
theorem dX1_isAbout_30 : decode cX1_isAbout 30 = .ok (.ireturn, 1) := by decide +kernel
theorem dX1_isInForce_0 : decode cX1_isInForce 0 = .ok (.aload_n 0, 1) := by decide +kernel
theorem dX1_isInForce_1 : decode cX1_isInForce 1 = .ok (.getfield 33, 3) := by decide +kernel
theorem dX1_isInForce_4 : decode cX1_isInForce 4 = .ok (.iload_n 1, 1) := by decide +kernel
theorem dX1_isInForce_5 : decode cX1_isInForce 5 = .ok (.iaload, 1) := by decide +kernel
theorem dX1_isInForce_6 : decode cX1_isInForce 6 = .ok (.aload_n 0, 1) := by decide +kernel
theorem dX1_isInForce_7 : decode cX1_isInForce 7 = .ok (.getfield 43, 3) := by decide +kernel
theorem dX1_isInForce_10 : decode cX1_isInForce 10 = .ok (.if_icmp .gt 7, 3) := by decide +kernel
theorem dX1_isInForce_13 : decode cX1_isInForce 13 = .ok (.iconst 1, 1) := by decide +kernel
theorem dX1_isInForce_14 : decode cX1_isInForce 14 = .ok (.goto 4, 3) := by decide +kernel
theorem dX1_isInForce_17 : decode cX1_isInForce 17 = .ok (.iconst 0, 1) := by decide +kernel
theorem dX1_isInForce_18 : decode cX1_isInForce 18 = .ok (.ireturn, 1) := by decide +kernel
theorem dX1_countInForce_0 : decode cX1_countInForce 0 = .ok (.iconst 0, 1) := by decide +kernel
theorem dX1_countInForce_1 : decode cX1_countInForce 1 = .ok (.istore_n 2, 1) := by decide +kernel
theorem dX1_countInForce_2 : decode cX1_countInForce 2 = .ok (.iconst 0, 1) := by decide +kernel
theorem dX1_countInForce_3 : decode cX1_countInForce 3 = .ok (.istore_n 3, 1) := by decide +kernel
theorem dX1_countInForce_4 : decode cX1_countInForce 4 = .ok (.iload_n 3, 1) := by decide +kernel
theorem dX1_countInForce_5 : decode cX1_countInForce 5 = .ok (.aload_n 0, 1) := by decide +kernel
theorem dX1_countInForce_6 : decode cX1_countInForce 6 = .ok (.getfield 40, 3) := by decide +kernel
theorem dX1_countInForce_9 : decode cX1_countInForce 9 = .ok (.if_icmp .ge 34, 3) := by decide +kernel
theorem dX1_countInForce_12 : decode cX1_countInForce 12 = .ok (.iload_n 2, 1) := by decide +kernel
theorem dX1_countInForce_13 : decode cX1_countInForce 13 = .ok (.aload_n 0, 1) := by decide +kernel
theorem dX1_countInForce_14 : decode cX1_countInForce 14 = .ok (.iload_n 3, 1) := by decide +kernel
theorem dX1_countInForce_15 : decode cX1_countInForce 15 = .ok (.iload_n 1, 1) := by decide +kernel
theorem dX1_countInForce_16 : decode cX1_countInForce 16 = .ok (.invokevirtual 68, 3) := by decide +kernel
theorem dX1_countInForce_19 : decode cX1_countInForce 19 = .ok (.ifCond .eq 15, 3) := by decide +kernel
theorem dX1_countInForce_22 : decode cX1_countInForce 22 = .ok (.aload_n 0, 1) := by decide +kernel
theorem dX1_countInForce_23 : decode cX1_countInForce 23 = .ok (.iload_n 3, 1) := by decide +kernel
theorem dX1_countInForce_24 : decode cX1_countInForce 24 = .ok (.invokevirtual 72, 3) := by decide +kernel
theorem dX1_countInForce_27 : decode cX1_countInForce 27 = .ok (.ifCond .eq 7, 3) := by decide +kernel
theorem dX1_countInForce_30 : decode cX1_countInForce 30 = .ok (.iconst 1, 1) := by decide +kernel
theorem dX1_countInForce_31 : decode cX1_countInForce 31 = .ok (.goto 4, 3) := by decide +kernel
theorem dX1_countInForce_34 : decode cX1_countInForce 34 = .ok (.iconst 0, 1) := by decide +kernel
theorem dX1_countInForce_35 : decode cX1_countInForce 35 = .ok (.iadd, 1) := by decide +kernel
theorem dX1_countInForce_36 : decode cX1_countInForce 36 = .ok (.istore_n 2, 1) := by decide +kernel
theorem dX1_countInForce_37 : decode cX1_countInForce 37 = .ok (.iinc 3 1, 3) := by decide +kernel
theorem dX1_countInForce_40 : decode cX1_countInForce 40 = .ok (.goto (-36), 3) := by decide +kernel
theorem dX1_countInForce_43 : decode cX1_countInForce 43 = .ok (.iload_n 2, 1) := by decide +kernel
theorem dX1_countInForce_44 : decode cX1_countInForce 44 = .ok (.ireturn, 1) := by decide +kernel
theorem dX1_slackAfter_0 : decode cX1_slackAfter 0 = .ok (.aload_n 0, 1) := by decide +kernel
theorem dX1_slackAfter_1 : decode cX1_slackAfter 1 = .ok (.aload_n 0, 1) := by decide +kernel
theorem dX1_slackAfter_2 : decode cX1_slackAfter 2 = .ok (.getfield 27, 3) := by decide +kernel
theorem dX1_slackAfter_5 : decode cX1_slackAfter 5 = .ok (.iload_n 1, 1) := by decide +kernel
theorem dX1_slackAfter_6 : decode cX1_slackAfter 6 = .ok (.iaload, 1) := by decide +kernel
theorem dX1_slackAfter_7 : decode cX1_slackAfter 7 = .ok (.iload_n 2, 1) := by decide +kernel
theorem dX1_slackAfter_8 : decode cX1_slackAfter 8 = .ok (.invokevirtual 65, 3) := by decide +kernel
theorem dX1_slackAfter_11 : decode cX1_slackAfter 11 = .ok (.aload_n 0, 1) := by decide +kernel
theorem dX1_slackAfter_12 : decode cX1_slackAfter 12 = .ok (.getfield 30, 3) := by decide +kernel
theorem dX1_slackAfter_15 : decode cX1_slackAfter 15 = .ok (.iload_n 1, 1) := by decide +kernel
theorem dX1_slackAfter_16 : decode cX1_slackAfter 16 = .ok (.iaload, 1) := by decide +kernel
theorem dX1_slackAfter_17 : decode cX1_slackAfter 17 = .ok (.iadd, 1) := by decide +kernel
theorem dX1_slackAfter_18 : decode cX1_slackAfter 18 = .ok (.istore_n 3, 1) := by decide +kernel
theorem dX1_slackAfter_19 : decode cX1_slackAfter 19 = .ok (.iload_n 3, 1) := by decide +kernel
theorem dX1_slackAfter_20 : decode cX1_slackAfter 20 = .ok (.aload_n 0, 1) := by decide +kernel
theorem dX1_slackAfter_21 : decode cX1_slackAfter 21 = .ok (.aload_n 0, 1) := by decide +kernel
theorem dX1_slackAfter_22 : decode cX1_slackAfter 22 = .ok (.getfield 24, 3) := by decide +kernel
theorem dX1_slackAfter_25 : decode cX1_slackAfter 25 = .ok (.iload_n 1, 1) := by decide +kernel
theorem dX1_slackAfter_26 : decode cX1_slackAfter 26 = .ok (.iaload, 1) := by decide +kernel
theorem dX1_slackAfter_27 : decode cX1_slackAfter 27 = .ok (.iload_n 2, 1) := by decide +kernel
theorem dX1_slackAfter_28 : decode cX1_slackAfter 28 = .ok (.invokevirtual 65, 3) := by decide +kernel
theorem dX1_slackAfter_31 : decode cX1_slackAfter 31 = .ok (.isub, 1) := by decide +kernel
theorem dX1_slackAfter_32 : decode cX1_slackAfter 32 = .ok (.ireturn, 1) := by decide +kernel
theorem dX1_isBrokenAfter_0 : decode cX1_isBrokenAfter 0 = .ok (.aload_n 0, 1) := by decide +kernel
theorem dX1_isBrokenAfter_1 : decode cX1_isBrokenAfter 1 = .ok (.getfield 33, 3) := by decide +kernel
theorem dX1_isBrokenAfter_4 : decode cX1_isBrokenAfter 4 = .ok (.iload_n 1, 1) := by decide +kernel
theorem dX1_isBrokenAfter_5 : decode cX1_isBrokenAfter 5 = .ok (.iaload, 1) := by decide +kernel
theorem dX1_isBrokenAfter_6 : decode cX1_isBrokenAfter 6 = .ok (.aload_n 0, 1) := by decide +kernel
theorem dX1_isBrokenAfter_7 : decode cX1_isBrokenAfter 7 = .ok (.getfield 43, 3) := by decide +kernel
theorem dX1_isBrokenAfter_10 : decode cX1_isBrokenAfter 10 = .ok (.iload_n 2, 1) := by decide +kernel
theorem dX1_isBrokenAfter_11 : decode cX1_isBrokenAfter 11 = .ok (.iadd, 1) := by decide +kernel
theorem dX1_isBrokenAfter_12 : decode cX1_isBrokenAfter 12 = .ok (.if_icmp .gt 16, 3) := by decide +kernel
theorem dX1_isBrokenAfter_15 : decode cX1_isBrokenAfter 15 = .ok (.aload_n 0, 1) := by decide +kernel
theorem dX1_isBrokenAfter_16 : decode cX1_isBrokenAfter 16 = .ok (.iload_n 1, 1) := by decide +kernel
theorem dX1_isBrokenAfter_17 : decode cX1_isBrokenAfter 17 = .ok (.iload_n 2, 1) := by decide +kernel
theorem dX1_isBrokenAfter_18 : decode cX1_isBrokenAfter 18 = .ok (.invokevirtual 75, 3) := by decide +kernel
theorem dX1_isBrokenAfter_21 : decode cX1_isBrokenAfter 21 = .ok (.ifCond .ge 7, 3) := by decide +kernel
theorem dX1_isBrokenAfter_24 : decode cX1_isBrokenAfter 24 = .ok (.iconst 1, 1) := by decide +kernel
theorem dX1_isBrokenAfter_25 : decode cX1_isBrokenAfter 25 = .ok (.goto 4, 3) := by decide +kernel
theorem dX1_isBrokenAfter_28 : decode cX1_isBrokenAfter 28 = .ok (.iconst 0, 1) := by decide +kernel
theorem dX1_isBrokenAfter_29 : decode cX1_isBrokenAfter 29 = .ok (.ireturn, 1) := by decide +kernel
theorem dX1_isBroken_0 : decode cX1_isBroken 0 = .ok (.aload_n 0, 1) := by decide +kernel
theorem dX1_isBroken_1 : decode cX1_isBroken 1 = .ok (.iload_n 1, 1) := by decide +kernel
theorem dX1_isBroken_2 : decode cX1_isBroken 2 = .ok (.iconst 0, 1) := by decide +kernel
theorem dX1_isBroken_3 : decode cX1_isBroken 3 = .ok (.invokevirtual 78, 3) := by decide +kernel
theorem dX1_isBroken_6 : decode cX1_isBroken 6 = .ok (.ireturn, 1) := by decide +kernel
theorem dX1_countBroken_0 : decode cX1_countBroken 0 = .ok (.iconst 0, 1) := by decide +kernel
theorem dX1_countBroken_1 : decode cX1_countBroken 1 = .ok (.istore_n 3, 1) := by decide +kernel
theorem dX1_countBroken_2 : decode cX1_countBroken 2 = .ok (.iconst 0, 1) := by decide +kernel
theorem dX1_countBroken_3 : decode cX1_countBroken 3 = .ok (.istore 4, 2) := by decide +kernel
theorem dX1_countBroken_5 : decode cX1_countBroken 5 = .ok (.iload 4, 2) := by decide +kernel
theorem dX1_countBroken_7 : decode cX1_countBroken 7 = .ok (.aload_n 0, 1) := by decide +kernel
theorem dX1_countBroken_8 : decode cX1_countBroken 8 = .ok (.getfield 40, 3) := by decide +kernel
theorem dX1_countBroken_11 : decode cX1_countBroken 11 = .ok (.if_icmp .ge 37, 3) := by decide +kernel
theorem dX1_countBroken_14 : decode cX1_countBroken 14 = .ok (.iload_n 3, 1) := by decide +kernel
theorem dX1_countBroken_15 : decode cX1_countBroken 15 = .ok (.aload_n 0, 1) := by decide +kernel
theorem dX1_countBroken_16 : decode cX1_countBroken 16 = .ok (.iload 4, 2) := by decide +kernel
theorem dX1_countBroken_18 : decode cX1_countBroken 18 = .ok (.iload_n 1, 1) := by decide +kernel
theorem dX1_countBroken_19 : decode cX1_countBroken 19 = .ok (.invokevirtual 68, 3) := by decide +kernel
theorem dX1_countBroken_22 : decode cX1_countBroken 22 = .ok (.ifCond .eq 17, 3) := by decide +kernel
theorem dX1_countBroken_25 : decode cX1_countBroken 25 = .ok (.aload_n 0, 1) := by decide +kernel
theorem dX1_countBroken_26 : decode cX1_countBroken 26 = .ok (.iload 4, 2) := by decide +kernel
theorem dX1_countBroken_28 : decode cX1_countBroken 28 = .ok (.iload_n 2, 1) := by decide +kernel
theorem dX1_countBroken_29 : decode cX1_countBroken 29 = .ok (.invokevirtual 78, 3) := by decide +kernel
theorem dX1_countBroken_32 : decode cX1_countBroken 32 = .ok (.ifCond .eq 7, 3) := by decide +kernel
theorem dX1_countBroken_35 : decode cX1_countBroken 35 = .ok (.iconst 1, 1) := by decide +kernel
theorem dX1_countBroken_36 : decode cX1_countBroken 36 = .ok (.goto 4, 3) := by decide +kernel
theorem dX1_countBroken_39 : decode cX1_countBroken 39 = .ok (.iconst 0, 1) := by decide +kernel
theorem dX1_countBroken_40 : decode cX1_countBroken 40 = .ok (.iadd, 1) := by decide +kernel
theorem dX1_countBroken_41 : decode cX1_countBroken 41 = .ok (.istore_n 3, 1) := by decide +kernel
theorem dX1_countBroken_42 : decode cX1_countBroken 42 = .ok (.iinc 4 1, 3) := by decide +kernel
theorem dX1_countBroken_45 : decode cX1_countBroken 45 = .ok (.goto (-40), 3) := by decide +kernel
theorem dX1_countBroken_48 : decode cX1_countBroken 48 = .ok (.iload_n 3, 1) := by decide +kernel
theorem dX1_countBroken_49 : decode cX1_countBroken 49 = .ok (.ireturn, 1) := by decide +kernel
end
section
theorem dX2_init_0 : decode cX2_init 0 = .ok (.aload_n 0, 1) := by decide +kernel
theorem dX2_init_1 : decode cX2_init 1 = .ok (.invokespecial 3, 3) := by decide +kernel
theorem dX2_init_4 : decode cX2_init 4 = .ok (.aload_n 0, 1) := by decide +kernel
theorem dX2_init_5 : decode cX2_init 5 = .ok (.bipush 8, 2) := by decide +kernel
theorem dX2_init_7 : decode cX2_init 7 = .ok (.newarray .int, 2) := by decide +kernel
theorem dX2_init_9 : decode cX2_init 9 = .ok (.putfield 9, 3) := by decide +kernel
theorem dX2_init_12 : decode cX2_init 12 = .ok (.aload_n 0, 1) := by decide +kernel
theorem dX2_init_13 : decode cX2_init 13 = .ok (.bipush 8, 2) := by decide +kernel
theorem dX2_init_15 : decode cX2_init 15 = .ok (.newarray .int, 2) := by decide +kernel
theorem dX2_init_17 : decode cX2_init 17 = .ok (.putfield 15, 3) := by decide +kernel
theorem dX2_init_20 : decode cX2_init 20 = .ok (.aload_n 0, 1) := by decide +kernel
theorem dX2_init_21 : decode cX2_init 21 = .ok (.bipush 8, 2) := by decide +kernel
theorem dX2_init_23 : decode cX2_init 23 = .ok (.bipush 8, 2) := by decide +kernel
theorem dX2_init_25 : decode cX2_init 25 = .ok (.multianewarray 18 2, 4) := by decide +kernel
theorem dX2_init_29 : decode cX2_init 29 = .ok (.putfield 20, 3) := by decide +kernel
theorem dX2_init_32 : decode cX2_init 32 = .ok (.return_, 1) := by decide +kernel
theorem dX2_boundByTreaties_0 : decode cX2_boundByTreaties 0 = .ok (.iconst 0, 1) := by decide +kernel
theorem dX2_boundByTreaties_1 : decode cX2_boundByTreaties 1 = .ok (.istore 5, 2) := by decide +kernel
theorem dX2_boundByTreaties_3 : decode cX2_boundByTreaties 3 = .ok (.iload 5, 2) := by decide +kernel
theorem dX2_boundByTreaties_5 : decode cX2_boundByTreaties 5 = .ok (.bipush 8, 2) := by decide +kernel
theorem dX2_boundByTreaties_7 : decode cX2_boundByTreaties 7 = .ok (.if_icmp .ge 28, 3) := by decide +kernel
theorem dX2_boundByTreaties_10 : decode cX2_boundByTreaties 10 = .ok (.aload_n 0, 1) := by decide +kernel
theorem dX2_boundByTreaties_11 : decode cX2_boundByTreaties 11 = .ok (.getfield 15, 3) := by decide +kernel
theorem dX2_boundByTreaties_14 : decode cX2_boundByTreaties 14 = .ok (.iload 5, 2) := by decide +kernel
theorem dX2_boundByTreaties_16 : decode cX2_boundByTreaties 16 = .ok (.iload 5, 2) := by decide +kernel
theorem dX2_boundByTreaties_18 : decode cX2_boundByTreaties 18 = .ok (.iload_n 2, 1) := by decide +kernel
theorem dX2_boundByTreaties_19 : decode cX2_boundByTreaties 19 = .ok (.if_icmp .ne 7, 3) := by decide +kernel
theorem dX2_boundByTreaties_22 : decode cX2_boundByTreaties 22 = .ok (.iconst 0, 1) := by decide +kernel
theorem dX2_boundByTreaties_23 : decode cX2_boundByTreaties 23 = .ok (.goto 5, 3) := by decide +kernel
theorem dX2_boundByTreaties_26 : decode cX2_boundByTreaties 26 = .ok (.ldc 23, 2) := by decide +kernel
theorem dX2_boundByTreaties_28 : decode cX2_boundByTreaties 28 = .ok (.iastore, 1) := by decide +kernel
theorem dX2_boundByTreaties_29 : decode cX2_boundByTreaties 29 = .ok (.iinc 5 1, 3) := by decide +kernel
theorem dX2_boundByTreaties_32 : decode cX2_boundByTreaties 32 = .ok (.goto (-29), 3) := by decide +kernel
theorem dX2_boundByTreaties_35 : decode cX2_boundByTreaties 35 = .ok (.iconst 1, 1) := by decide +kernel
theorem dX2_boundByTreaties_36 : decode cX2_boundByTreaties 36 = .ok (.istore 5, 2) := by decide +kernel
theorem dX2_boundByTreaties_38 : decode cX2_boundByTreaties 38 = .ok (.iconst 0, 1) := by decide +kernel
theorem dX2_boundByTreaties_39 : decode cX2_boundByTreaties 39 = .ok (.istore 6, 2) := by decide +kernel
theorem dX2_boundByTreaties_41 : decode cX2_boundByTreaties 41 = .ok (.iload 6, 2) := by decide +kernel
theorem dX2_boundByTreaties_43 : decode cX2_boundByTreaties 43 = .ok (.bipush 8, 2) := by decide +kernel
theorem dX2_boundByTreaties_45 : decode cX2_boundByTreaties 45 = .ok (.if_icmp .ge 23, 3) := by decide +kernel
theorem dX2_boundByTreaties_48 : decode cX2_boundByTreaties 48 = .ok (.iload 5, 2) := by decide +kernel
theorem dX2_boundByTreaties_50 : decode cX2_boundByTreaties 50 = .ok (.ifCond .eq 18, 3) := by decide +kernel
theorem dX2_boundByTreaties_53 : decode cX2_boundByTreaties 53 = .ok (.aload_n 0, 1) := by decide +kernel
theorem dX2_boundByTreaties_54 : decode cX2_boundByTreaties 54 = .ok (.aload_n 1, 1) := by decide +kernel
theorem dX2_boundByTreaties_55 : decode cX2_boundByTreaties 55 = .ok (.iload 4, 2) := by decide +kernel
theorem dX2_boundByTreaties_57 : decode cX2_boundByTreaties 57 = .ok (.invokevirtual 24, 3) := by decide +kernel
theorem dX2_boundByTreaties_60 : decode cX2_boundByTreaties 60 = .ok (.istore 5, 2) := by decide +kernel
theorem dX2_boundByTreaties_62 : decode cX2_boundByTreaties 62 = .ok (.iinc 6 1, 3) := by decide +kernel
theorem dX2_boundByTreaties_65 : decode cX2_boundByTreaties 65 = .ok (.goto (-24), 3) := by decide +kernel
theorem dX2_boundByTreaties_68 : decode cX2_boundByTreaties 68 = .ok (.aload_n 0, 1) := by decide +kernel
theorem dX2_boundByTreaties_69 : decode cX2_boundByTreaties 69 = .ok (.getfield 15, 3) := by decide +kernel
theorem dX2_boundByTreaties_72 : decode cX2_boundByTreaties 72 = .ok (.iload_n 3, 1) := by decide +kernel
theorem dX2_boundByTreaties_73 : decode cX2_boundByTreaties 73 = .ok (.iaload, 1) := by decide +kernel
theorem dX2_boundByTreaties_74 : decode cX2_boundByTreaties 74 = .ok (.ireturn, 1) := by decide +kernel
theorem dX2_shortenSums_0 : decode cX2_shortenSums 0 = .ok (.iconst 0, 1) := by decide +kernel
theorem dX2_shortenSums_1 : decode cX2_shortenSums 1 = .ok (.istore_n 3, 1) := by decide +kernel
theorem dX2_shortenSums_2 : decode cX2_shortenSums 2 = .ok (.iconst 0, 1) := by decide +kernel
theorem dX2_shortenSums_3 : decode cX2_shortenSums 3 = .ok (.istore 4, 2) := by decide +kernel
theorem dX2_shortenSums_5 : decode cX2_shortenSums 5 = .ok (.iload 4, 2) := by decide +kernel
theorem dX2_shortenSums_7 : decode cX2_shortenSums 7 = .ok (.aload_n 1, 1) := by decide +kernel
theorem dX2_shortenSums_8 : decode cX2_shortenSums 8 = .ok (.getfield 28, 3) := by decide +kernel
theorem dX2_shortenSums_11 : decode cX2_shortenSums 11 = .ok (.if_icmp .ge 92, 3) := by decide +kernel
theorem dX2_shortenSums_14 : decode cX2_shortenSums 14 = .ok (.aload_n 0, 1) := by decide +kernel
theorem dX2_shortenSums_15 : decode cX2_shortenSums 15 = .ok (.getfield 15, 3) := by decide +kernel
theorem dX2_shortenSums_18 : decode cX2_shortenSums 18 = .ok (.aload_n 1, 1) := by decide +kernel
theorem dX2_shortenSums_19 : decode cX2_shortenSums 19 = .ok (.getfield 34, 3) := by decide +kernel
theorem dX2_shortenSums_22 : decode cX2_shortenSums 22 = .ok (.iload 4, 2) := by decide +kernel
theorem dX2_shortenSums_24 : decode cX2_shortenSums 24 = .ok (.iaload, 1) := by decide +kernel
theorem dX2_shortenSums_25 : decode cX2_shortenSums 25 = .ok (.iaload, 1) := by decide +kernel
theorem dX2_shortenSums_26 : decode cX2_shortenSums 26 = .ok (.istore 5, 2) := by decide +kernel
theorem dX2_shortenSums_28 : decode cX2_shortenSums 28 = .ok (.iload 4, 2) := by decide +kernel
theorem dX2_shortenSums_30 : decode cX2_shortenSums 30 = .ok (.iload_n 2, 1) := by decide +kernel
theorem dX2_shortenSums_31 : decode cX2_shortenSums 31 = .ok (.if_icmp .eq 66, 3) := by decide +kernel
theorem dX2_shortenSums_34 : decode cX2_shortenSums 34 = .ok (.aload_n 1, 1) := by decide +kernel
theorem dX2_shortenSums_35 : decode cX2_shortenSums 35 = .ok (.iload 4, 2) := by decide +kernel
theorem dX2_shortenSums_37 : decode cX2_shortenSums 37 = .ok (.invokevirtual 37, 3) := by decide +kernel
theorem dX2_shortenSums_40 : decode cX2_shortenSums 40 = .ok (.ifCond .eq 57, 3) := by decide +kernel
theorem dX2_shortenSums_43 : decode cX2_shortenSums 43 = .ok (.iload 5, 2) := by decide +kernel
theorem dX2_shortenSums_45 : decode cX2_shortenSums 45 = .ok (.ldc 23, 2) := by decide +kernel
theorem dX2_shortenSums_47 : decode cX2_shortenSums 47 = .ok (.if_icmp .ne 6, 3) := by decide +kernel
theorem dX2_shortenSums_50 : decode cX2_shortenSums 50 = .ok (.goto 47, 3) := by decide +kernel
theorem dX2_shortenSums_53 : decode cX2_shortenSums 53 = .ok (.aload_n 1, 1) := by decide +kernel
theorem dX2_shortenSums_54 : decode cX2_shortenSums 54 = .ok (.getfield 41, 3) := by decide +kernel
theorem dX2_shortenSums_57 : decode cX2_shortenSums 57 = .ok (.iload 4, 2) := by decide +kernel
theorem dX2_shortenSums_59 : decode cX2_shortenSums 59 = .ok (.iaload, 1) := by decide +kernel
theorem dX2_shortenSums_60 : decode cX2_shortenSums 60 = .ok (.istore 6, 2) := by decide +kernel
theorem dX2_shortenSums_62 : decode cX2_shortenSums 62 = .ok (.iload 5, 2) := by decide +kernel
theorem dX2_shortenSums_64 : decode cX2_shortenSums 64 = .ok (.aload_n 1, 1) := by decide +kernel
theorem dX2_shortenSums_65 : decode cX2_shortenSums 65 = .ok (.getfield 44, 3) := by decide +kernel
theorem dX2_shortenSums_68 : decode cX2_shortenSums 68 = .ok (.iload 4, 2) := by decide +kernel
theorem dX2_shortenSums_70 : decode cX2_shortenSums 70 = .ok (.iaload, 1) := by decide +kernel
theorem dX2_shortenSums_71 : decode cX2_shortenSums 71 = .ok (.iadd, 1) := by decide +kernel
theorem dX2_shortenSums_72 : decode cX2_shortenSums 72 = .ok (.istore 7, 2) := by decide +kernel
theorem dX2_shortenSums_74 : decode cX2_shortenSums 74 = .ok (.iload 7, 2) := by decide +kernel
theorem dX2_shortenSums_76 : decode cX2_shortenSums 76 = .ok (.aload_n 0, 1) := by decide +kernel
theorem dX2_shortenSums_77 : decode cX2_shortenSums 77 = .ok (.getfield 15, 3) := by decide +kernel
theorem dX2_shortenSums_80 : decode cX2_shortenSums 80 = .ok (.iload 6, 2) := by decide +kernel
theorem dX2_shortenSums_82 : decode cX2_shortenSums 82 = .ok (.iaload, 1) := by decide +kernel
theorem dX2_shortenSums_83 : decode cX2_shortenSums 83 = .ok (.if_icmp .ge 14, 3) := by decide +kernel
theorem dX2_shortenSums_86 : decode cX2_shortenSums 86 = .ok (.aload_n 0, 1) := by decide +kernel
theorem dX2_shortenSums_87 : decode cX2_shortenSums 87 = .ok (.getfield 15, 3) := by decide +kernel
theorem dX2_shortenSums_90 : decode cX2_shortenSums 90 = .ok (.iload 6, 2) := by decide +kernel
theorem dX2_shortenSums_92 : decode cX2_shortenSums 92 = .ok (.iload 7, 2) := by decide +kernel
theorem dX2_shortenSums_94 : decode cX2_shortenSums 94 = .ok (.iastore, 1) := by decide +kernel
theorem dX2_shortenSums_95 : decode cX2_shortenSums 95 = .ok (.iconst 1, 1) := by decide +kernel
theorem dX2_shortenSums_96 : decode cX2_shortenSums 96 = .ok (.istore_n 3, 1) := by decide +kernel
theorem dX2_shortenSums_97 : decode cX2_shortenSums 97 = .ok (.iinc 4 1, 3) := by decide +kernel
theorem dX2_shortenSums_100 : decode cX2_shortenSums 100 = .ok (.goto (-95), 3) := by decide +kernel
theorem dX2_shortenSums_103 : decode cX2_shortenSums 103 = .ok (.iload_n 3, 1) := by decide +kernel
theorem dX2_shortenSums_104 : decode cX2_shortenSums 104 = .ok (.ireturn, 1) := by decide +kernel
theorem dX2_boundByPairs_0 : decode cX2_boundByPairs 0 = .ok (.aload_n 0, 1) := by decide +kernel
theorem dX2_boundByPairs_1 : decode cX2_boundByPairs 1 = .ok (.aload_n 1, 1) := by decide +kernel
theorem dX2_boundByPairs_2 : decode cX2_boundByPairs 2 = .ok (.invokevirtual 47, 3) := by decide +kernel
theorem dX2_boundByPairs_5 : decode cX2_boundByPairs 5 = .ok (.aload_n 0, 1) := by decide +kernel
theorem dX2_boundByPairs_6 : decode cX2_boundByPairs 6 = .ok (.getfield 20, 3) := by decide +kernel
theorem dX2_boundByPairs_9 : decode cX2_boundByPairs 9 = .ok (.iload_n 2, 1) := by decide +kernel
theorem dX2_boundByPairs_10 : decode cX2_boundByPairs 10 = .ok (.aaload, 1) := by decide +kernel
theorem dX2_boundByPairs_11 : decode cX2_boundByPairs 11 = .ok (.iload_n 3, 1) := by decide +kernel
theorem dX2_boundByPairs_12 : decode cX2_boundByPairs 12 = .ok (.iaload, 1) := by decide +kernel
theorem dX2_boundByPairs_13 : decode cX2_boundByPairs 13 = .ok (.ireturn, 1) := by decide +kernel
theorem dX2_findPairs_0 : decode cX2_findPairs 0 = .ok (.aload_n 0, 1) := by decide +kernel
theorem dX2_findPairs_1 : decode cX2_findPairs 1 = .ok (.aload_n 1, 1) := by decide +kernel
theorem dX2_findPairs_2 : decode cX2_findPairs 2 = .ok (.invokevirtual 51, 3) := by decide +kernel
theorem dX2_findPairs_5 : decode cX2_findPairs 5 = .ok (.iconst 0, 1) := by decide +kernel
theorem dX2_findPairs_6 : decode cX2_findPairs 6 = .ok (.istore_n 2, 1) := by decide +kernel
theorem dX2_findPairs_7 : decode cX2_findPairs 7 = .ok (.iload_n 2, 1) := by decide +kernel
theorem dX2_findPairs_8 : decode cX2_findPairs 8 = .ok (.bipush 8, 2) := by decide +kernel
theorem dX2_findPairs_10 : decode cX2_findPairs 10 = .ok (.if_icmp .ge 47, 3) := by decide +kernel
theorem dX2_findPairs_13 : decode cX2_findPairs 13 = .ok (.iconst 0, 1) := by decide +kernel
theorem dX2_findPairs_14 : decode cX2_findPairs 14 = .ok (.istore_n 3, 1) := by decide +kernel
theorem dX2_findPairs_15 : decode cX2_findPairs 15 = .ok (.iload_n 3, 1) := by decide +kernel
theorem dX2_findPairs_16 : decode cX2_findPairs 16 = .ok (.bipush 8, 2) := by decide +kernel
theorem dX2_findPairs_18 : decode cX2_findPairs 18 = .ok (.if_icmp .ge 33, 3) := by decide +kernel
theorem dX2_findPairs_21 : decode cX2_findPairs 21 = .ok (.iconst 0, 1) := by decide +kernel
theorem dX2_findPairs_22 : decode cX2_findPairs 22 = .ok (.istore 4, 2) := by decide +kernel
theorem dX2_findPairs_24 : decode cX2_findPairs 24 = .ok (.iload 4, 2) := by decide +kernel
theorem dX2_findPairs_26 : decode cX2_findPairs 26 = .ok (.bipush 8, 2) := by decide +kernel
theorem dX2_findPairs_28 : decode cX2_findPairs 28 = .ok (.if_icmp .ge 17, 3) := by decide +kernel
theorem dX2_findPairs_31 : decode cX2_findPairs 31 = .ok (.aload_n 0, 1) := by decide +kernel
theorem dX2_findPairs_32 : decode cX2_findPairs 32 = .ok (.iload_n 3, 1) := by decide +kernel
theorem dX2_findPairs_33 : decode cX2_findPairs 33 = .ok (.iload_n 2, 1) := by decide +kernel
theorem dX2_findPairs_34 : decode cX2_findPairs 34 = .ok (.iload 4, 2) := by decide +kernel
theorem dX2_findPairs_36 : decode cX2_findPairs 36 = .ok (.invokevirtual 54, 3) := by decide +kernel
theorem dX2_findPairs_39 : decode cX2_findPairs 39 = .ok (.iinc 4 1, 3) := by decide +kernel
theorem dX2_findPairs_42 : decode cX2_findPairs 42 = .ok (.goto (-18), 3) := by decide +kernel
theorem dX2_findPairs_45 : decode cX2_findPairs 45 = .ok (.iinc 3 1, 3) := by decide +kernel
theorem dX2_findPairs_48 : decode cX2_findPairs 48 = .ok (.goto (-33), 3) := by decide +kernel
theorem dX2_findPairs_51 : decode cX2_findPairs 51 = .ok (.iinc 2 1, 3) := by decide +kernel
theorem dX2_findPairs_54 : decode cX2_findPairs 54 = .ok (.goto (-47), 3) := by decide +kernel
theorem dX2_findPairs_57 : decode cX2_findPairs 57 = .ok (.return_, 1) := by decide +kernel
theorem dX2_startPairs_0 : decode cX2_startPairs 0 = .ok (.iconst 0, 1) := by decide +kernel
theorem dX2_startPairs_1 : decode cX2_startPairs 1 = .ok (.istore_n 2, 1) := by decide +kernel
theorem dX2_startPairs_2 : decode cX2_startPairs 2 = .ok (.iload_n 2, 1) := by decide +kernel
theorem dX2_startPairs_3 : decode cX2_startPairs 3 = .ok (.bipush 8, 2) := by decide +kernel
theorem dX2_startPairs_5 : decode cX2_startPairs 5 = .ok (.if_icmp .ge 42, 3) := by decide +kernel
theorem dX2_startPairs_8 : decode cX2_startPairs 8 = .ok (.iconst 0, 1) := by decide +kernel
theorem dX2_startPairs_9 : decode cX2_startPairs 9 = .ok (.istore_n 3, 1) := by decide +kernel
theorem dX2_startPairs_10 : decode cX2_startPairs 10 = .ok (.iload_n 3, 1) := by decide +kernel
theorem dX2_startPairs_11 : decode cX2_startPairs 11 = .ok (.bipush 8, 2) := by decide +kernel
theorem dX2_startPairs_13 : decode cX2_startPairs 13 = .ok (.if_icmp .ge 28, 3) := by decide +kernel
theorem dX2_startPairs_16 : decode cX2_startPairs 16 = .ok (.aload_n 0, 1) := by decide +kernel
theorem dX2_startPairs_17 : decode cX2_startPairs 17 = .ok (.getfield 20, 3) := by decide +kernel
theorem dX2_startPairs_20 : decode cX2_startPairs 20 = .ok (.iload_n 2, 1) := by decide +kernel
theorem dX2_startPairs_21 : decode cX2_startPairs 21 = .ok (.aaload, 1) := by decide +kernel
theorem dX2_startPairs_22 : decode cX2_startPairs 22 = .ok (.iload_n 3, 1) := by decide +kernel
theorem dX2_startPairs_23 : decode cX2_startPairs 23 = .ok (.iload_n 2, 1) := by decide +kernel
theorem dX2_startPairs_24 : decode cX2_startPairs 24 = .ok (.iload_n 3, 1) := by decide +kernel
theorem dX2_startPairs_25 : decode cX2_startPairs 25 = .ok (.if_icmp .ne 7, 3) := by decide +kernel
theorem dX2_startPairs_28 : decode cX2_startPairs 28 = .ok (.iconst 0, 1) := by decide +kernel
theorem dX2_startPairs_29 : decode cX2_startPairs 29 = .ok (.goto 5, 3) := by decide +kernel
theorem dX2_startPairs_32 : decode cX2_startPairs 32 = .ok (.ldc 23, 2) := by decide +kernel
theorem dX2_startPairs_34 : decode cX2_startPairs 34 = .ok (.iastore, 1) := by decide +kernel
theorem dX2_startPairs_35 : decode cX2_startPairs 35 = .ok (.iinc 3 1, 3) := by decide +kernel
theorem dX2_startPairs_38 : decode cX2_startPairs 38 = .ok (.goto (-28), 3) := by decide +kernel
theorem dX2_startPairs_41 : decode cX2_startPairs 41 = .ok (.iinc 2 1, 3) := by decide +kernel
theorem dX2_startPairs_44 : decode cX2_startPairs 44 = .ok (.goto (-42), 3) := by decide +kernel
theorem dX2_startPairs_47 : decode cX2_startPairs 47 = .ok (.iconst 0, 1) := by decide +kernel
theorem dX2_startPairs_48 : decode cX2_startPairs 48 = .ok (.istore_n 2, 1) := by decide +kernel
theorem dX2_startPairs_49 : decode cX2_startPairs 49 = .ok (.iload_n 2, 1) := by decide +kernel
theorem dX2_startPairs_50 : decode cX2_startPairs 50 = .ok (.aload_n 1, 1) := by decide +kernel
theorem dX2_startPairs_51 : decode cX2_startPairs 51 = .ok (.getfield 28, 3) := by decide +kernel
theorem dX2_startPairs_54 : decode cX2_startPairs 54 = .ok (.if_icmp .ge 59, 3) := by decide +kernel
theorem dX2_startPairs_57 : decode cX2_startPairs 57 = .ok (.aload_n 1, 1) := by decide +kernel
theorem dX2_startPairs_58 : decode cX2_startPairs 58 = .ok (.iload_n 2, 1) := by decide +kernel
theorem dX2_startPairs_59 : decode cX2_startPairs 59 = .ok (.invokevirtual 37, 3) := by decide +kernel
theorem dX2_startPairs_62 : decode cX2_startPairs 62 = .ok (.ifCond .eq 45, 3) := by decide +kernel
theorem dX2_startPairs_65 : decode cX2_startPairs 65 = .ok (.aload_n 1, 1) := by decide +kernel
theorem dX2_startPairs_66 : decode cX2_startPairs 66 = .ok (.getfield 34, 3) := by decide +kernel
theorem dX2_startPairs_69 : decode cX2_startPairs 69 = .ok (.iload_n 2, 1) := by decide +kernel
theorem dX2_startPairs_70 : decode cX2_startPairs 70 = .ok (.iaload, 1) := by decide +kernel
theorem dX2_startPairs_71 : decode cX2_startPairs 71 = .ok (.istore_n 3, 1) := by decide +kernel
theorem dX2_startPairs_72 : decode cX2_startPairs 72 = .ok (.aload_n 1, 1) := by decide +kernel
theorem dX2_startPairs_73 : decode cX2_startPairs 73 = .ok (.getfield 41, 3) := by decide +kernel
theorem dX2_startPairs_76 : decode cX2_startPairs 76 = .ok (.iload_n 2, 1) := by decide +kernel
theorem dX2_startPairs_77 : decode cX2_startPairs 77 = .ok (.iaload, 1) := by decide +kernel
theorem dX2_startPairs_78 : decode cX2_startPairs 78 = .ok (.istore 4, 2) := by decide +kernel
theorem dX2_startPairs_80 : decode cX2_startPairs 80 = .ok (.aload_n 0, 1) := by decide +kernel
theorem dX2_startPairs_81 : decode cX2_startPairs 81 = .ok (.getfield 20, 3) := by decide +kernel
theorem dX2_startPairs_84 : decode cX2_startPairs 84 = .ok (.iload_n 3, 1) := by decide +kernel
theorem dX2_startPairs_85 : decode cX2_startPairs 85 = .ok (.aaload, 1) := by decide +kernel
theorem dX2_startPairs_86 : decode cX2_startPairs 86 = .ok (.iload 4, 2) := by decide +kernel
theorem dX2_startPairs_88 : decode cX2_startPairs 88 = .ok (.aload_n 0, 1) := by decide +kernel
theorem dX2_startPairs_89 : decode cX2_startPairs 89 = .ok (.getfield 20, 3) := by decide +kernel
theorem dX2_startPairs_92 : decode cX2_startPairs 92 = .ok (.iload_n 3, 1) := by decide +kernel
theorem dX2_startPairs_93 : decode cX2_startPairs 93 = .ok (.aaload, 1) := by decide +kernel
theorem dX2_startPairs_94 : decode cX2_startPairs 94 = .ok (.iload 4, 2) := by decide +kernel
theorem dX2_startPairs_96 : decode cX2_startPairs 96 = .ok (.iaload, 1) := by decide +kernel
theorem dX2_startPairs_97 : decode cX2_startPairs 97 = .ok (.aload_n 1, 1) := by decide +kernel
theorem dX2_startPairs_98 : decode cX2_startPairs 98 = .ok (.getfield 44, 3) := by decide +kernel
theorem dX2_startPairs_101 : decode cX2_startPairs 101 = .ok (.iload_n 2, 1) := by decide +kernel
theorem dX2_startPairs_102 : decode cX2_startPairs 102 = .ok (.iaload, 1) := by decide +kernel
theorem dX2_startPairs_103 : decode cX2_startPairs 103 = .ok (.invokestatic 58, 3) := by decide +kernel
theorem dX2_startPairs_106 : decode cX2_startPairs 106 = .ok (.iastore, 1) := by decide +kernel
theorem dX2_startPairs_107 : decode cX2_startPairs 107 = .ok (.iinc 2 1, 3) := by decide +kernel
theorem dX2_startPairs_110 : decode cX2_startPairs 110 = .ok (.goto (-61), 3) := by decide +kernel
theorem dX2_startPairs_113 : decode cX2_startPairs 113 = .ok (.return_, 1) := by decide +kernel
theorem dX2_joinPair_0 : decode cX2_joinPair 0 = .ok (.aload_n 0, 1) := by decide +kernel
theorem dX2_joinPair_1 : decode cX2_joinPair 1 = .ok (.getfield 20, 3) := by decide +kernel
theorem dX2_joinPair_4 : decode cX2_joinPair 4 = .ok (.iload_n 1, 1) := by decide +kernel
theorem dX2_joinPair_5 : decode cX2_joinPair 5 = .ok (.aaload, 1) := by decide +kernel
theorem dX2_joinPair_6 : decode cX2_joinPair 6 = .ok (.iload_n 2, 1) := by decide +kernel
theorem dX2_joinPair_7 : decode cX2_joinPair 7 = .ok (.iaload, 1) := by decide +kernel
theorem dX2_joinPair_8 : decode cX2_joinPair 8 = .ok (.istore 4, 2) := by decide +kernel
theorem dX2_joinPair_10 : decode cX2_joinPair 10 = .ok (.aload_n 0, 1) := by decide +kernel
theorem dX2_joinPair_11 : decode cX2_joinPair 11 = .ok (.getfield 20, 3) := by decide +kernel
theorem dX2_joinPair_14 : decode cX2_joinPair 14 = .ok (.iload_n 2, 1) := by decide +kernel
theorem dX2_joinPair_15 : decode cX2_joinPair 15 = .ok (.aaload, 1) := by decide +kernel
theorem dX2_joinPair_16 : decode cX2_joinPair 16 = .ok (.iload_n 3, 1) := by decide +kernel
theorem dX2_joinPair_17 : decode cX2_joinPair 17 = .ok (.iaload, 1) := by decide +kernel
theorem dX2_joinPair_18 : decode cX2_joinPair 18 = .ok (.istore 5, 2) := by decide +kernel
theorem dX2_joinPair_20 : decode cX2_joinPair 20 = .ok (.iload 4, 2) := by decide +kernel
theorem dX2_joinPair_22 : decode cX2_joinPair 22 = .ok (.ldc 23, 2) := by decide +kernel
theorem dX2_joinPair_24 : decode cX2_joinPair 24 = .ok (.if_icmp .eq 39, 3) := by decide +kernel
theorem dX2_joinPair_27 : decode cX2_joinPair 27 = .ok (.iload 5, 2) := by decide +kernel
theorem dX2_joinPair_29 : decode cX2_joinPair 29 = .ok (.ldc 23, 2) := by decide +kernel
theorem dX2_joinPair_31 : decode cX2_joinPair 31 = .ok (.if_icmp .eq 32, 3) := by decide +kernel
theorem dX2_joinPair_34 : decode cX2_joinPair 34 = .ok (.iload 4, 2) := by decide +kernel
theorem dX2_joinPair_36 : decode cX2_joinPair 36 = .ok (.iload 5, 2) := by decide +kernel
theorem dX2_joinPair_38 : decode cX2_joinPair 38 = .ok (.iadd, 1) := by decide +kernel
theorem dX2_joinPair_39 : decode cX2_joinPair 39 = .ok (.aload_n 0, 1) := by decide +kernel
theorem dX2_joinPair_40 : decode cX2_joinPair 40 = .ok (.getfield 20, 3) := by decide +kernel
theorem dX2_joinPair_43 : decode cX2_joinPair 43 = .ok (.iload_n 1, 1) := by decide +kernel
theorem dX2_joinPair_44 : decode cX2_joinPair 44 = .ok (.aaload, 1) := by decide +kernel
theorem dX2_joinPair_45 : decode cX2_joinPair 45 = .ok (.iload_n 3, 1) := by decide +kernel
theorem dX2_joinPair_46 : decode cX2_joinPair 46 = .ok (.iaload, 1) := by decide +kernel
theorem dX2_joinPair_47 : decode cX2_joinPair 47 = .ok (.if_icmp .ge 16, 3) := by decide +kernel
theorem dX2_joinPair_50 : decode cX2_joinPair 50 = .ok (.aload_n 0, 1) := by decide +kernel
theorem dX2_joinPair_51 : decode cX2_joinPair 51 = .ok (.getfield 20, 3) := by decide +kernel
theorem dX2_joinPair_54 : decode cX2_joinPair 54 = .ok (.iload_n 1, 1) := by decide +kernel
theorem dX2_joinPair_55 : decode cX2_joinPair 55 = .ok (.aaload, 1) := by decide +kernel
theorem dX2_joinPair_56 : decode cX2_joinPair 56 = .ok (.iload_n 3, 1) := by decide +kernel
theorem dX2_joinPair_57 : decode cX2_joinPair 57 = .ok (.iload 4, 2) := by decide +kernel
theorem dX2_joinPair_59 : decode cX2_joinPair 59 = .ok (.iload 5, 2) := by decide +kernel
theorem dX2_joinPair_61 : decode cX2_joinPair 61 = .ok (.iadd, 1) := by decide +kernel
theorem dX2_joinPair_62 : decode cX2_joinPair 62 = .ok (.iastore, 1) := by decide +kernel
theorem dX2_joinPair_63 : decode cX2_joinPair 63 = .ok (.return_, 1) := by decide +kernel
theorem dX2_findLeastClipping_0 : decode cX2_findLeastClipping 0 = .ok (.iconst 0, 1) := by decide +kernel
theorem dX2_findLeastClipping_1 : decode cX2_findLeastClipping 1 = .ok (.istore_n 2, 1) := by decide +kernel
theorem dX2_findLeastClipping_2 : decode cX2_findLeastClipping 2 = .ok (.iload_n 2, 1) := by decide +kernel
theorem dX2_findLeastClipping_3 : decode cX2_findLeastClipping 3 = .ok (.bipush 8, 2) := by decide +kernel
theorem dX2_findLeastClipping_5 : decode cX2_findLeastClipping 5 = .ok (.if_icmp .ge 21, 3) := by decide +kernel
theorem dX2_findLeastClipping_8 : decode cX2_findLeastClipping 8 = .ok (.aload_n 0, 1) := by decide +kernel
theorem dX2_findLeastClipping_9 : decode cX2_findLeastClipping 9 = .ok (.getfield 9, 3) := by decide +kernel
theorem dX2_findLeastClipping_12 : decode cX2_findLeastClipping 12 = .ok (.iload_n 2, 1) := by decide +kernel
theorem dX2_findLeastClipping_13 : decode cX2_findLeastClipping 13 = .ok (.aload_n 1, 1) := by decide +kernel
theorem dX2_findLeastClipping_14 : decode cX2_findLeastClipping 14 = .ok (.getfield 64, 3) := by decide +kernel
theorem dX2_findLeastClipping_17 : decode cX2_findLeastClipping 17 = .ok (.iload_n 2, 1) := by decide +kernel
theorem dX2_findLeastClipping_18 : decode cX2_findLeastClipping 18 = .ok (.iaload, 1) := by decide +kernel
theorem dX2_findLeastClipping_19 : decode cX2_findLeastClipping 19 = .ok (.iastore, 1) := by decide +kernel
theorem dX2_findLeastClipping_20 : decode cX2_findLeastClipping 20 = .ok (.iinc 2 1, 3) := by decide +kernel
theorem dX2_findLeastClipping_23 : decode cX2_findLeastClipping 23 = .ok (.goto (-21), 3) := by decide +kernel
theorem dX2_findLeastClipping_26 : decode cX2_findLeastClipping 26 = .ok (.iconst 1, 1) := by decide +kernel
theorem dX2_findLeastClipping_27 : decode cX2_findLeastClipping 27 = .ok (.istore_n 2, 1) := by decide +kernel
theorem dX2_findLeastClipping_28 : decode cX2_findLeastClipping 28 = .ok (.iconst 0, 1) := by decide +kernel
theorem dX2_findLeastClipping_29 : decode cX2_findLeastClipping 29 = .ok (.istore_n 3, 1) := by decide +kernel
theorem dX2_findLeastClipping_30 : decode cX2_findLeastClipping 30 = .ok (.iload_n 3, 1) := by decide +kernel
theorem dX2_findLeastClipping_31 : decode cX2_findLeastClipping 31 = .ok (.bipush 8, 2) := by decide +kernel
theorem dX2_findLeastClipping_33 : decode cX2_findLeastClipping 33 = .ok (.if_icmp .ge 20, 3) := by decide +kernel
theorem dX2_findLeastClipping_36 : decode cX2_findLeastClipping 36 = .ok (.iload_n 2, 1) := by decide +kernel
theorem dX2_findLeastClipping_37 : decode cX2_findLeastClipping 37 = .ok (.ifCond .eq 16, 3) := by decide +kernel
theorem dX2_findLeastClipping_40 : decode cX2_findLeastClipping 40 = .ok (.aload_n 0, 1) := by decide +kernel
theorem dX2_findLeastClipping_41 : decode cX2_findLeastClipping 41 = .ok (.aload_n 1, 1) := by decide +kernel
theorem dX2_findLeastClipping_42 : decode cX2_findLeastClipping 42 = .ok (.iconst 0, 1) := by decide +kernel
theorem dX2_findLeastClipping_43 : decode cX2_findLeastClipping 43 = .ok (.invokevirtual 67, 3) := by decide +kernel
theorem dX2_findLeastClipping_46 : decode cX2_findLeastClipping 46 = .ok (.istore_n 2, 1) := by decide +kernel
theorem dX2_findLeastClipping_47 : decode cX2_findLeastClipping 47 = .ok (.iinc 3 1, 3) := by decide +kernel
theorem dX2_findLeastClipping_50 : decode cX2_findLeastClipping 50 = .ok (.goto (-20), 3) := by decide +kernel
theorem dX2_findLeastClipping_53 : decode cX2_findLeastClipping 53 = .ok (.iload_n 2, 1) := by decide +kernel
theorem dX2_findLeastClipping_54 : decode cX2_findLeastClipping 54 = .ok (.ifCond .ne 14, 3) := by decide +kernel
theorem dX2_findLeastClipping_57 : decode cX2_findLeastClipping 57 = .ok (.aload_n 0, 1) := by decide +kernel
theorem dX2_findLeastClipping_58 : decode cX2_findLeastClipping 58 = .ok (.invokevirtual 71, 3) := by decide +kernel
theorem dX2_findLeastClipping_61 : decode cX2_findLeastClipping 61 = .ok (.ifCond .eq 7, 3) := by decide +kernel
theorem dX2_findLeastClipping_64 : decode cX2_findLeastClipping 64 = .ok (.iconst 1, 1) := by decide +kernel
theorem dX2_findLeastClipping_65 : decode cX2_findLeastClipping 65 = .ok (.goto 4, 3) := by decide +kernel
theorem dX2_findLeastClipping_68 : decode cX2_findLeastClipping 68 = .ok (.iconst 0, 1) := by decide +kernel
theorem dX2_findLeastClipping_69 : decode cX2_findLeastClipping 69 = .ok (.ireturn, 1) := by decide +kernel
theorem dX2_findLeastClippingByBounds_0 : decode cX2_findLeastClippingByBounds 0 = .ok (.aload_n 0, 1) := by decide +kernel
theorem dX2_findLeastClippingByBounds_1 : decode cX2_findLeastClippingByBounds 1 = .ok (.aload_n 1, 1) := by decide +kernel
theorem dX2_findLeastClippingByBounds_2 : decode cX2_findLeastClippingByBounds 2 = .ok (.invokevirtual 47, 3) := by decide +kernel
theorem dX2_findLeastClippingByBounds_5 : decode cX2_findLeastClippingByBounds 5 = .ok (.iconst 0, 1) := by decide +kernel
theorem dX2_findLeastClippingByBounds_6 : decode cX2_findLeastClippingByBounds 6 = .ok (.istore_n 2, 1) := by decide +kernel
theorem dX2_findLeastClippingByBounds_7 : decode cX2_findLeastClippingByBounds 7 = .ok (.iload_n 2, 1) := by decide +kernel
theorem dX2_findLeastClippingByBounds_8 : decode cX2_findLeastClippingByBounds 8 = .ok (.bipush 8, 2) := by decide +kernel
theorem dX2_findLeastClippingByBounds_10 : decode cX2_findLeastClippingByBounds 10 = .ok (.if_icmp .ge 75, 3) := by decide +kernel
theorem dX2_findLeastClippingByBounds_13 : decode cX2_findLeastClippingByBounds 13 = .ok (.aload_n 1, 1) := by decide +kernel
theorem dX2_findLeastClippingByBounds_14 : decode cX2_findLeastClippingByBounds 14 = .ok (.getfield 64, 3) := by decide +kernel
theorem dX2_findLeastClippingByBounds_17 : decode cX2_findLeastClippingByBounds 17 = .ok (.iload_n 2, 1) := by decide +kernel
theorem dX2_findLeastClippingByBounds_18 : decode cX2_findLeastClippingByBounds 18 = .ok (.iaload, 1) := by decide +kernel
theorem dX2_findLeastClippingByBounds_19 : decode cX2_findLeastClippingByBounds 19 = .ok (.istore_n 3, 1) := by decide +kernel
theorem dX2_findLeastClippingByBounds_20 : decode cX2_findLeastClippingByBounds 20 = .ok (.iconst 0, 1) := by decide +kernel
theorem dX2_findLeastClippingByBounds_21 : decode cX2_findLeastClippingByBounds 21 = .ok (.istore 4, 2) := by decide +kernel
theorem dX2_findLeastClippingByBounds_23 : decode cX2_findLeastClippingByBounds 23 = .ok (.iload 4, 2) := by decide +kernel
theorem dX2_findLeastClippingByBounds_25 : decode cX2_findLeastClippingByBounds 25 = .ok (.bipush 8, 2) := by decide +kernel
theorem dX2_findLeastClippingByBounds_27 : decode cX2_findLeastClippingByBounds 27 = .ok (.if_icmp .ge 45, 3) := by decide +kernel
theorem dX2_findLeastClippingByBounds_30 : decode cX2_findLeastClippingByBounds 30 = .ok (.aload_n 0, 1) := by decide +kernel
theorem dX2_findLeastClippingByBounds_31 : decode cX2_findLeastClippingByBounds 31 = .ok (.getfield 20, 3) := by decide +kernel
theorem dX2_findLeastClippingByBounds_34 : decode cX2_findLeastClippingByBounds 34 = .ok (.iload_n 2, 1) := by decide +kernel
theorem dX2_findLeastClippingByBounds_35 : decode cX2_findLeastClippingByBounds 35 = .ok (.aaload, 1) := by decide +kernel
theorem dX2_findLeastClippingByBounds_36 : decode cX2_findLeastClippingByBounds 36 = .ok (.iload 4, 2) := by decide +kernel
theorem dX2_findLeastClippingByBounds_38 : decode cX2_findLeastClippingByBounds 38 = .ok (.iaload, 1) := by decide +kernel
theorem dX2_findLeastClippingByBounds_39 : decode cX2_findLeastClippingByBounds 39 = .ok (.ldc 23, 2) := by decide +kernel
theorem dX2_findLeastClippingByBounds_41 : decode cX2_findLeastClippingByBounds 41 = .ok (.if_icmp .eq 25, 3) := by decide +kernel
theorem dX2_findLeastClippingByBounds_44 : decode cX2_findLeastClippingByBounds 44 = .ok (.iload_n 3, 1) := by decide +kernel
theorem dX2_findLeastClippingByBounds_45 : decode cX2_findLeastClippingByBounds 45 = .ok (.aload_n 1, 1) := by decide +kernel
theorem dX2_findLeastClippingByBounds_46 : decode cX2_findLeastClippingByBounds 46 = .ok (.getfield 64, 3) := by decide +kernel
theorem dX2_findLeastClippingByBounds_49 : decode cX2_findLeastClippingByBounds 49 = .ok (.iload 4, 2) := by decide +kernel
theorem dX2_findLeastClippingByBounds_51 : decode cX2_findLeastClippingByBounds 51 = .ok (.iaload, 1) := by decide +kernel
theorem dX2_findLeastClippingByBounds_52 : decode cX2_findLeastClippingByBounds 52 = .ok (.aload_n 0, 1) := by decide +kernel
theorem dX2_findLeastClippingByBounds_53 : decode cX2_findLeastClippingByBounds 53 = .ok (.getfield 20, 3) := by decide +kernel
theorem dX2_findLeastClippingByBounds_56 : decode cX2_findLeastClippingByBounds 56 = .ok (.iload_n 2, 1) := by decide +kernel
theorem dX2_findLeastClippingByBounds_57 : decode cX2_findLeastClippingByBounds 57 = .ok (.aaload, 1) := by decide +kernel
theorem dX2_findLeastClippingByBounds_58 : decode cX2_findLeastClippingByBounds 58 = .ok (.iload 4, 2) := by decide +kernel
theorem dX2_findLeastClippingByBounds_60 : decode cX2_findLeastClippingByBounds 60 = .ok (.iaload, 1) := by decide +kernel
theorem dX2_findLeastClippingByBounds_61 : decode cX2_findLeastClippingByBounds 61 = .ok (.iadd, 1) := by decide +kernel
theorem dX2_findLeastClippingByBounds_62 : decode cX2_findLeastClippingByBounds 62 = .ok (.invokestatic 58, 3) := by decide +kernel
theorem dX2_findLeastClippingByBounds_65 : decode cX2_findLeastClippingByBounds 65 = .ok (.istore_n 3, 1) := by decide +kernel
theorem dX2_findLeastClippingByBounds_66 : decode cX2_findLeastClippingByBounds 66 = .ok (.iinc 4 1, 3) := by decide +kernel
theorem dX2_findLeastClippingByBounds_69 : decode cX2_findLeastClippingByBounds 69 = .ok (.goto (-46), 3) := by decide +kernel
theorem dX2_findLeastClippingByBounds_72 : decode cX2_findLeastClippingByBounds 72 = .ok (.aload_n 0, 1) := by decide +kernel
theorem dX2_findLeastClippingByBounds_73 : decode cX2_findLeastClippingByBounds 73 = .ok (.getfield 9, 3) := by decide +kernel
theorem dX2_findLeastClippingByBounds_76 : decode cX2_findLeastClippingByBounds 76 = .ok (.iload_n 2, 1) := by decide +kernel
theorem dX2_findLeastClippingByBounds_77 : decode cX2_findLeastClippingByBounds 77 = .ok (.iload_n 3, 1) := by decide +kernel
theorem dX2_findLeastClippingByBounds_78 : decode cX2_findLeastClippingByBounds 78 = .ok (.iastore, 1) := by decide +kernel
theorem dX2_findLeastClippingByBounds_79 : decode cX2_findLeastClippingByBounds 79 = .ok (.iinc 2 1, 3) := by decide +kernel
theorem dX2_findLeastClippingByBounds_82 : decode cX2_findLeastClippingByBounds 82 = .ok (.goto (-75), 3) := by decide +kernel
theorem dX2_findLeastClippingByBounds_85 : decode cX2_findLeastClippingByBounds 85 = .ok (.aload_n 0, 1) := by decide +kernel
theorem dX2_findLeastClippingByBounds_86 : decode cX2_findLeastClippingByBounds 86 = .ok (.invokevirtual 71, 3) := by decide +kernel
theorem dX2_findLeastClippingByBounds_89 : decode cX2_findLeastClippingByBounds 89 = .ok (.ireturn, 1) := by decide +kernel
theorem dX2_isPossibleWith_0 : decode cX2_isPossibleWith 0 = .ok (.iconst 0, 1) := by decide +kernel
theorem dX2_isPossibleWith_1 : decode cX2_isPossibleWith 1 = .ok (.istore 5, 2) := by decide +kernel
theorem dX2_isPossibleWith_3 : decode cX2_isPossibleWith 3 = .ok (.iload 5, 2) := by decide +kernel
theorem dX2_isPossibleWith_5 : decode cX2_isPossibleWith 5 = .ok (.bipush 8, 2) := by decide +kernel
theorem dX2_isPossibleWith_7 : decode cX2_isPossibleWith 7 = .ok (.if_icmp .ge 18, 3) := by decide +kernel
theorem dX2_isPossibleWith_10 : decode cX2_isPossibleWith 10 = .ok (.aload_n 0, 1) := by decide +kernel
theorem dX2_isPossibleWith_11 : decode cX2_isPossibleWith 11 = .ok (.getfield 9, 3) := by decide +kernel
theorem dX2_isPossibleWith_14 : decode cX2_isPossibleWith 14 = .ok (.iload 5, 2) := by decide +kernel
theorem dX2_isPossibleWith_16 : decode cX2_isPossibleWith 16 = .ok (.bipush 99, 2) := by decide +kernel
theorem dX2_isPossibleWith_18 : decode cX2_isPossibleWith 18 = .ok (.iastore, 1) := by decide +kernel
theorem dX2_isPossibleWith_19 : decode cX2_isPossibleWith 19 = .ok (.iinc 5 1, 3) := by decide +kernel
theorem dX2_isPossibleWith_22 : decode cX2_isPossibleWith 22 = .ok (.goto (-19), 3) := by decide +kernel
theorem dX2_isPossibleWith_25 : decode cX2_isPossibleWith 25 = .ok (.iconst 1, 1) := by decide +kernel
theorem dX2_isPossibleWith_26 : decode cX2_isPossibleWith 26 = .ok (.istore 5, 2) := by decide +kernel
theorem dX2_isPossibleWith_28 : decode cX2_isPossibleWith 28 = .ok (.iconst 0, 1) := by decide +kernel
theorem dX2_isPossibleWith_29 : decode cX2_isPossibleWith 29 = .ok (.istore 6, 2) := by decide +kernel
theorem dX2_isPossibleWith_31 : decode cX2_isPossibleWith 31 = .ok (.iload 6, 2) := by decide +kernel
theorem dX2_isPossibleWith_33 : decode cX2_isPossibleWith 33 = .ok (.bipush 8, 2) := by decide +kernel
theorem dX2_isPossibleWith_35 : decode cX2_isPossibleWith 35 = .ok (.if_icmp .ge 36, 3) := by decide +kernel
theorem dX2_isPossibleWith_38 : decode cX2_isPossibleWith 38 = .ok (.iload 5, 2) := by decide +kernel
theorem dX2_isPossibleWith_40 : decode cX2_isPossibleWith 40 = .ok (.ifCond .eq 31, 3) := by decide +kernel
theorem dX2_isPossibleWith_43 : decode cX2_isPossibleWith 43 = .ok (.aload_n 0, 1) := by decide +kernel
theorem dX2_isPossibleWith_44 : decode cX2_isPossibleWith 44 = .ok (.iload_n 2, 1) := by decide +kernel
theorem dX2_isPossibleWith_45 : decode cX2_isPossibleWith 45 = .ok (.iload_n 3, 1) := by decide +kernel
theorem dX2_isPossibleWith_46 : decode cX2_isPossibleWith 46 = .ok (.iload 4, 2) := by decide +kernel
theorem dX2_isPossibleWith_48 : decode cX2_isPossibleWith 48 = .ok (.invokevirtual 75, 3) := by decide +kernel
theorem dX2_isPossibleWith_51 : decode cX2_isPossibleWith 51 = .ok (.istore 5, 2) := by decide +kernel
theorem dX2_isPossibleWith_53 : decode cX2_isPossibleWith 53 = .ok (.aload_n 0, 1) := by decide +kernel
theorem dX2_isPossibleWith_54 : decode cX2_isPossibleWith 54 = .ok (.aload_n 1, 1) := by decide +kernel
theorem dX2_isPossibleWith_55 : decode cX2_isPossibleWith 55 = .ok (.iconst 1, 1) := by decide +kernel
theorem dX2_isPossibleWith_56 : decode cX2_isPossibleWith 56 = .ok (.invokevirtual 67, 3) := by decide +kernel
theorem dX2_isPossibleWith_59 : decode cX2_isPossibleWith 59 = .ok (.ifCond .eq 6, 3) := by decide +kernel
theorem dX2_isPossibleWith_62 : decode cX2_isPossibleWith 62 = .ok (.iconst 1, 1) := by decide +kernel
theorem dX2_isPossibleWith_63 : decode cX2_isPossibleWith 63 = .ok (.istore 5, 2) := by decide +kernel
theorem dX2_isPossibleWith_65 : decode cX2_isPossibleWith 65 = .ok (.iinc 6 1, 3) := by decide +kernel
theorem dX2_isPossibleWith_68 : decode cX2_isPossibleWith 68 = .ok (.goto (-37), 3) := by decide +kernel
theorem dX2_isPossibleWith_71 : decode cX2_isPossibleWith 71 = .ok (.iload 5, 2) := by decide +kernel
theorem dX2_isPossibleWith_73 : decode cX2_isPossibleWith 73 = .ok (.ifCond .ne 14, 3) := by decide +kernel
theorem dX2_isPossibleWith_76 : decode cX2_isPossibleWith 76 = .ok (.aload_n 0, 1) := by decide +kernel
theorem dX2_isPossibleWith_77 : decode cX2_isPossibleWith 77 = .ok (.invokevirtual 71, 3) := by decide +kernel
theorem dX2_isPossibleWith_80 : decode cX2_isPossibleWith 80 = .ok (.ifCond .eq 7, 3) := by decide +kernel
theorem dX2_isPossibleWith_83 : decode cX2_isPossibleWith 83 = .ok (.iconst 1, 1) := by decide +kernel
theorem dX2_isPossibleWith_84 : decode cX2_isPossibleWith 84 = .ok (.goto 4, 3) := by decide +kernel
theorem dX2_isPossibleWith_87 : decode cX2_isPossibleWith 87 = .ok (.iconst 0, 1) := by decide +kernel
theorem dX2_isPossibleWith_88 : decode cX2_isPossibleWith 88 = .ok (.ireturn, 1) := by decide +kernel
theorem dX2_pressByTreaties_0 : decode cX2_pressByTreaties 0 = .ok (.iconst 0, 1) := by decide +kernel
theorem dX2_pressByTreaties_1 : decode cX2_pressByTreaties 1 = .ok (.istore_n 3, 1) := by decide +kernel
theorem dX2_pressByTreaties_2 : decode cX2_pressByTreaties 2 = .ok (.iconst 0, 1) := by decide +kernel
theorem dX2_pressByTreaties_3 : decode cX2_pressByTreaties 3 = .ok (.istore 4, 2) := by decide +kernel
theorem dX2_pressByTreaties_5 : decode cX2_pressByTreaties 5 = .ok (.iload 4, 2) := by decide +kernel
theorem dX2_pressByTreaties_7 : decode cX2_pressByTreaties 7 = .ok (.aload_n 1, 1) := by decide +kernel
theorem dX2_pressByTreaties_8 : decode cX2_pressByTreaties 8 = .ok (.getfield 28, 3) := by decide +kernel
theorem dX2_pressByTreaties_11 : decode cX2_pressByTreaties 11 = .ok (.if_icmp .ge 55, 3) := by decide +kernel
theorem dX2_pressByTreaties_14 : decode cX2_pressByTreaties 14 = .ok (.iload_n 2, 1) := by decide +kernel
theorem dX2_pressByTreaties_15 : decode cX2_pressByTreaties 15 = .ok (.ifCond .ne 15, 3) := by decide +kernel
theorem dX2_pressByTreaties_18 : decode cX2_pressByTreaties 18 = .ok (.aload_n 1, 1) := by decide +kernel
theorem dX2_pressByTreaties_19 : decode cX2_pressByTreaties 19 = .ok (.iload 4, 2) := by decide +kernel
theorem dX2_pressByTreaties_21 : decode cX2_pressByTreaties 21 = .ok (.invokevirtual 37, 3) := by decide +kernel
theorem dX2_pressByTreaties_24 : decode cX2_pressByTreaties 24 = .ok (.ifCond .ne 6, 3) := by decide +kernel
theorem dX2_pressByTreaties_27 : decode cX2_pressByTreaties 27 = .ok (.goto 33, 3) := by decide +kernel
theorem dX2_pressByTreaties_30 : decode cX2_pressByTreaties 30 = .ok (.aload_n 0, 1) := by decide +kernel
theorem dX2_pressByTreaties_31 : decode cX2_pressByTreaties 31 = .ok (.aload_n 1, 1) := by decide +kernel
theorem dX2_pressByTreaties_32 : decode cX2_pressByTreaties 32 = .ok (.getfield 34, 3) := by decide +kernel
theorem dX2_pressByTreaties_35 : decode cX2_pressByTreaties 35 = .ok (.iload 4, 2) := by decide +kernel
theorem dX2_pressByTreaties_37 : decode cX2_pressByTreaties 37 = .ok (.iaload, 1) := by decide +kernel
theorem dX2_pressByTreaties_38 : decode cX2_pressByTreaties 38 = .ok (.aload_n 1, 1) := by decide +kernel
theorem dX2_pressByTreaties_39 : decode cX2_pressByTreaties 39 = .ok (.getfield 41, 3) := by decide +kernel
theorem dX2_pressByTreaties_42 : decode cX2_pressByTreaties 42 = .ok (.iload 4, 2) := by decide +kernel
theorem dX2_pressByTreaties_44 : decode cX2_pressByTreaties 44 = .ok (.iaload, 1) := by decide +kernel
theorem dX2_pressByTreaties_45 : decode cX2_pressByTreaties 45 = .ok (.aload_n 1, 1) := by decide +kernel
theorem dX2_pressByTreaties_46 : decode cX2_pressByTreaties 46 = .ok (.getfield 44, 3) := by decide +kernel
theorem dX2_pressByTreaties_49 : decode cX2_pressByTreaties 49 = .ok (.iload 4, 2) := by decide +kernel
theorem dX2_pressByTreaties_51 : decode cX2_pressByTreaties 51 = .ok (.iaload, 1) := by decide +kernel
theorem dX2_pressByTreaties_52 : decode cX2_pressByTreaties 52 = .ok (.invokevirtual 75, 3) := by decide +kernel
theorem dX2_pressByTreaties_55 : decode cX2_pressByTreaties 55 = .ok (.ifCond .eq 5, 3) := by decide +kernel
theorem dX2_pressByTreaties_58 : decode cX2_pressByTreaties 58 = .ok (.iconst 1, 1) := by decide +kernel
theorem dX2_pressByTreaties_59 : decode cX2_pressByTreaties 59 = .ok (.istore_n 3, 1) := by decide +kernel
theorem dX2_pressByTreaties_60 : decode cX2_pressByTreaties 60 = .ok (.iinc 4 1, 3) := by decide +kernel
theorem dX2_pressByTreaties_63 : decode cX2_pressByTreaties 63 = .ok (.goto (-58), 3) := by decide +kernel
theorem dX2_pressByTreaties_66 : decode cX2_pressByTreaties 66 = .ok (.iload_n 3, 1) := by decide +kernel
theorem dX2_pressByTreaties_67 : decode cX2_pressByTreaties 67 = .ok (.ireturn, 1) := by decide +kernel
theorem dX2_press_0 : decode cX2_press 0 = .ok (.aload_n 0, 1) := by decide +kernel
theorem dX2_press_1 : decode cX2_press 1 = .ok (.getfield 9, 3) := by decide +kernel
theorem dX2_press_4 : decode cX2_press 4 = .ok (.iload_n 2, 1) := by decide +kernel
theorem dX2_press_5 : decode cX2_press 5 = .ok (.iaload, 1) := by decide +kernel
theorem dX2_press_6 : decode cX2_press 6 = .ok (.iload_n 3, 1) := by decide +kernel
theorem dX2_press_7 : decode cX2_press 7 = .ok (.iadd, 1) := by decide +kernel
theorem dX2_press_8 : decode cX2_press 8 = .ok (.istore 4, 2) := by decide +kernel
theorem dX2_press_10 : decode cX2_press 10 = .ok (.aload_n 0, 1) := by decide +kernel
theorem dX2_press_11 : decode cX2_press 11 = .ok (.getfield 9, 3) := by decide +kernel
theorem dX2_press_14 : decode cX2_press 14 = .ok (.iload_n 1, 1) := by decide +kernel
theorem dX2_press_15 : decode cX2_press 15 = .ok (.iaload, 1) := by decide +kernel
theorem dX2_press_16 : decode cX2_press 16 = .ok (.iload 4, 2) := by decide +kernel
theorem dX2_press_18 : decode cX2_press 18 = .ok (.if_icmp .gt 5, 3) := by decide +kernel
theorem dX2_press_21 : decode cX2_press 21 = .ok (.iconst 0, 1) := by decide +kernel
theorem dX2_press_22 : decode cX2_press 22 = .ok (.ireturn, 1) := by decide +kernel
theorem dX2_press_23 : decode cX2_press 23 = .ok (.aload_n 0, 1) := by decide +kernel
theorem dX2_press_24 : decode cX2_press 24 = .ok (.getfield 9, 3) := by decide +kernel
theorem dX2_press_27 : decode cX2_press 27 = .ok (.iload_n 1, 1) := by decide +kernel
theorem dX2_press_28 : decode cX2_press 28 = .ok (.iload 4, 2) := by decide +kernel
theorem dX2_press_30 : decode cX2_press 30 = .ok (.iastore, 1) := by decide +kernel
theorem dX2_press_31 : decode cX2_press 31 = .ok (.iconst 1, 1) := by decide +kernel
theorem dX2_press_32 : decode cX2_press 32 = .ok (.ireturn, 1) := by decide +kernel
theorem dX2_areLevelsAboveGround_0 : decode cX2_areLevelsAboveGround 0 = .ok (.iconst 0, 1) := by decide +kernel
theorem dX2_areLevelsAboveGround_1 : decode cX2_areLevelsAboveGround 1 = .ok (.istore_n 1, 1) := by decide +kernel
theorem dX2_areLevelsAboveGround_2 : decode cX2_areLevelsAboveGround 2 = .ok (.iload_n 1, 1) := by decide +kernel
theorem dX2_areLevelsAboveGround_3 : decode cX2_areLevelsAboveGround 3 = .ok (.bipush 8, 2) := by decide +kernel
theorem dX2_areLevelsAboveGround_5 : decode cX2_areLevelsAboveGround 5 = .ok (.if_icmp .ge 20, 3) := by decide +kernel
theorem dX2_areLevelsAboveGround_8 : decode cX2_areLevelsAboveGround 8 = .ok (.aload_n 0, 1) := by decide +kernel
theorem dX2_areLevelsAboveGround_9 : decode cX2_areLevelsAboveGround 9 = .ok (.getfield 9, 3) := by decide +kernel
theorem dX2_areLevelsAboveGround_12 : decode cX2_areLevelsAboveGround 12 = .ok (.iload_n 1, 1) := by decide +kernel
theorem dX2_areLevelsAboveGround_13 : decode cX2_areLevelsAboveGround 13 = .ok (.iaload, 1) := by decide +kernel
theorem dX2_areLevelsAboveGround_14 : decode cX2_areLevelsAboveGround 14 = .ok (.ifCond .ge 5, 3) := by decide +kernel
theorem dX2_areLevelsAboveGround_17 : decode cX2_areLevelsAboveGround 17 = .ok (.iconst 0, 1) := by decide +kernel
theorem dX2_areLevelsAboveGround_18 : decode cX2_areLevelsAboveGround 18 = .ok (.ireturn, 1) := by decide +kernel
theorem dX2_areLevelsAboveGround_19 : decode cX2_areLevelsAboveGround 19 = .ok (.iinc 1 1, 3) := by decide +kernel
theorem dX2_areLevelsAboveGround_22 : decode cX2_areLevelsAboveGround 22 = .ok (.goto (-20), 3) := by decide +kernel
theorem dX2_areLevelsAboveGround_25 : decode cX2_areLevelsAboveGround 25 = .ok (.iconst 1, 1) := by decide +kernel
theorem dX2_areLevelsAboveGround_26 : decode cX2_areLevelsAboveGround 26 = .ok (.ireturn, 1) := by decide +kernel
end
section
theorem dX3_init_0 : decode cX3_init 0 = .ok (.aload_n 0, 1) := by decide +kernel
theorem dX3_init_1 : decode cX3_init 1 = .ok (.invokespecial 1, 3) := by decide +kernel
theorem dX3_init_4 : decode cX3_init 4 = .ok (.aload_n 0, 1) := by decide +kernel
theorem dX3_init_5 : decode cX3_init 5 = .ok (.new 7, 3) := by decide +kernel
theorem dX3_init_8 : decode cX3_init 8 = .ok (.dup, 1) := by decide +kernel
theorem dX3_init_9 : decode cX3_init 9 = .ok (.invokespecial 9, 3) := by decide +kernel
theorem dX3_init_12 : decode cX3_init 12 = .ok (.putfield 10, 3) := by decide +kernel
theorem dX3_init_15 : decode cX3_init 15 = .ok (.aload_n 0, 1) := by decide +kernel
theorem dX3_init_16 : decode cX3_init 16 = .ok (.new 7, 3) := by decide +kernel
theorem dX3_init_19 : decode cX3_init 19 = .ok (.dup, 1) := by decide +kernel
theorem dX3_init_20 : decode cX3_init 20 = .ok (.invokespecial 9, 3) := by decide +kernel
theorem dX3_init_23 : decode cX3_init 23 = .ok (.putfield 16, 3) := by decide +kernel
theorem dX3_init_26 : decode cX3_init 26 = .ok (.aload_n 0, 1) := by decide +kernel
theorem dX3_init_27 : decode cX3_init 27 = .ok (.iconst 4, 1) := by decide +kernel
theorem dX3_init_28 : decode cX3_init 28 = .ok (.anewarray 7, 3) := by decide +kernel
theorem dX3_init_31 : decode cX3_init 31 = .ok (.putfield 19, 3) := by decide +kernel
theorem dX3_init_34 : decode cX3_init 34 = .ok (.iconst 0, 1) := by decide +kernel
theorem dX3_init_35 : decode cX3_init 35 = .ok (.istore_n 1, 1) := by decide +kernel
theorem dX3_init_36 : decode cX3_init 36 = .ok (.iload_n 1, 1) := by decide +kernel
theorem dX3_init_37 : decode cX3_init 37 = .ok (.iconst 4, 1) := by decide +kernel
theorem dX3_init_38 : decode cX3_init 38 = .ok (.if_icmp .ge 22, 3) := by decide +kernel
theorem dX3_init_41 : decode cX3_init 41 = .ok (.aload_n 0, 1) := by decide +kernel
theorem dX3_init_42 : decode cX3_init 42 = .ok (.getfield 19, 3) := by decide +kernel
theorem dX3_init_45 : decode cX3_init 45 = .ok (.iload_n 1, 1) := by decide +kernel
theorem dX3_init_46 : decode cX3_init 46 = .ok (.new 7, 3) := by decide +kernel
theorem dX3_init_49 : decode cX3_init 49 = .ok (.dup, 1) := by decide +kernel
theorem dX3_init_50 : decode cX3_init 50 = .ok (.invokespecial 9, 3) := by decide +kernel
theorem dX3_init_53 : decode cX3_init 53 = .ok (.aastore, 1) := by decide +kernel
theorem dX3_init_54 : decode cX3_init 54 = .ok (.iinc 1 1, 3) := by decide +kernel
theorem dX3_init_57 : decode cX3_init 57 = .ok (.goto (-21), 3) := by decide +kernel
theorem dX3_init_60 : decode cX3_init 60 = .ok (.aload_n 0, 1) := by decide +kernel
theorem dX3_init_61 : decode cX3_init 61 = .ok (.new 23, 3) := by decide +kernel
theorem dX3_init_64 : decode cX3_init 64 = .ok (.dup, 1) := by decide +kernel
theorem dX3_init_65 : decode cX3_init 65 = .ok (.invokespecial 25, 3) := by decide +kernel
theorem dX3_init_68 : decode cX3_init 68 = .ok (.putfield 26, 3) := by decide +kernel
theorem dX3_init_71 : decode cX3_init 71 = .ok (.aload_n 0, 1) := by decide +kernel
theorem dX3_init_72 : decode cX3_init 72 = .ok (.new 30, 3) := by decide +kernel
theorem dX3_init_75 : decode cX3_init 75 = .ok (.dup, 1) := by decide +kernel
theorem dX3_init_76 : decode cX3_init 76 = .ok (.invokespecial 32, 3) := by decide +kernel
theorem dX3_init_79 : decode cX3_init 79 = .ok (.putfield 33, 3) := by decide +kernel
theorem dX3_init_82 : decode cX3_init 82 = .ok (.return_, 1) := by decide +kernel
theorem dX3_height_0 : decode cX3_height 0 = .ok (.iload_n 1, 1) := by decide +kernel
theorem dX3_height_1 : decode cX3_height 1 = .ok (.invokestatic 37, 3) := by decide +kernel
theorem dX3_height_4 : decode cX3_height 4 = .ok (.ifCond .eq 13, 3) := by decide +kernel
theorem dX3_height_7 : decode cX3_height 7 = .ok (.iload_n 2, 1) := by decide +kernel
theorem dX3_height_8 : decode cX3_height 8 = .ok (.ifCond .lt 9, 3) := by decide +kernel
theorem dX3_height_11 : decode cX3_height 11 = .ok (.iload_n 2, 1) := by decide +kernel
theorem dX3_height_12 : decode cX3_height 12 = .ok (.bipush 99, 2) := by decide +kernel
theorem dX3_height_14 : decode cX3_height 14 = .ok (.if_icmp .le 5, 3) := by decide +kernel
theorem dX3_height_17 : decode cX3_height 17 = .ok (.iconst (-1), 1) := by decide +kernel
theorem dX3_height_18 : decode cX3_height 18 = .ok (.ireturn, 1) := by decide +kernel
theorem dX3_height_19 : decode cX3_height 19 = .ok (.aload_n 0, 1) := by decide +kernel
theorem dX3_height_20 : decode cX3_height 20 = .ok (.invokevirtual 41, 3) := by decide +kernel
theorem dX3_height_23 : decode cX3_height 23 = .ok (.aload_n 0, 1) := by decide +kernel
theorem dX3_height_24 : decode cX3_height 24 = .ok (.getfield 10, 3) := by decide +kernel
theorem dX3_height_27 : decode cX3_height 27 = .ok (.getfield 44, 3) := by decide +kernel
theorem dX3_height_30 : decode cX3_height 30 = .ok (.iload_n 1, 1) := by decide +kernel
theorem dX3_height_31 : decode cX3_height 31 = .ok (.iaload, 1) := by decide +kernel
theorem dX3_height_32 : decode cX3_height 32 = .ok (.istore_n 3, 1) := by decide +kernel
theorem dX3_height_33 : decode cX3_height 33 = .ok (.aload_n 0, 1) := by decide +kernel
theorem dX3_height_34 : decode cX3_height 34 = .ok (.getfield 10, 3) := by decide +kernel
theorem dX3_height_37 : decode cX3_height 37 = .ok (.getfield 44, 3) := by decide +kernel
theorem dX3_height_40 : decode cX3_height 40 = .ok (.iload_n 1, 1) := by decide +kernel
theorem dX3_height_41 : decode cX3_height 41 = .ok (.iload_n 2, 1) := by decide +kernel
theorem dX3_height_42 : decode cX3_height 42 = .ok (.iastore, 1) := by decide +kernel
theorem dX3_height_43 : decode cX3_height 43 = .ok (.iload_n 3, 1) := by decide +kernel
theorem dX3_height_44 : decode cX3_height 44 = .ok (.ireturn, 1) := by decide +kernel
theorem dX3_growth_0 : decode cX3_growth 0 = .ok (.iload_n 1, 1) := by decide +kernel
theorem dX3_growth_1 : decode cX3_growth 1 = .ok (.invokestatic 37, 3) := by decide +kernel
theorem dX3_growth_4 : decode cX3_growth 4 = .ok (.ifCond .eq 12, 3) := by decide +kernel
theorem dX3_growth_7 : decode cX3_growth 7 = .ok (.iload_n 2, 1) := by decide +kernel
theorem dX3_growth_8 : decode cX3_growth 8 = .ok (.ifCond .lt 8, 3) := by decide +kernel
theorem dX3_growth_11 : decode cX3_growth 11 = .ok (.iload_n 2, 1) := by decide +kernel
theorem dX3_growth_12 : decode cX3_growth 12 = .ok (.iconst 5, 1) := by decide +kernel
theorem dX3_growth_13 : decode cX3_growth 13 = .ok (.if_icmp .le 5, 3) := by decide +kernel
theorem dX3_growth_16 : decode cX3_growth 16 = .ok (.iconst (-1), 1) := by decide +kernel
theorem dX3_growth_17 : decode cX3_growth 17 = .ok (.ireturn, 1) := by decide +kernel
theorem dX3_growth_18 : decode cX3_growth 18 = .ok (.aload_n 0, 1) := by decide +kernel
theorem dX3_growth_19 : decode cX3_growth 19 = .ok (.invokevirtual 41, 3) := by decide +kernel
theorem dX3_growth_22 : decode cX3_growth 22 = .ok (.aload_n 0, 1) := by decide +kernel
theorem dX3_growth_23 : decode cX3_growth 23 = .ok (.getfield 10, 3) := by decide +kernel
theorem dX3_growth_26 : decode cX3_growth 26 = .ok (.getfield 48, 3) := by decide +kernel
theorem dX3_growth_29 : decode cX3_growth 29 = .ok (.iload_n 1, 1) := by decide +kernel
theorem dX3_growth_30 : decode cX3_growth 30 = .ok (.iaload, 1) := by decide +kernel
theorem dX3_growth_31 : decode cX3_growth 31 = .ok (.istore_n 3, 1) := by decide +kernel
theorem dX3_growth_32 : decode cX3_growth 32 = .ok (.aload_n 0, 1) := by decide +kernel
theorem dX3_growth_33 : decode cX3_growth 33 = .ok (.getfield 10, 3) := by decide +kernel
theorem dX3_growth_36 : decode cX3_growth 36 = .ok (.getfield 48, 3) := by decide +kernel
theorem dX3_growth_39 : decode cX3_growth 39 = .ok (.iload_n 1, 1) := by decide +kernel
theorem dX3_growth_40 : decode cX3_growth 40 = .ok (.iload_n 2, 1) := by decide +kernel
theorem dX3_growth_41 : decode cX3_growth 41 = .ok (.iastore, 1) := by decide +kernel
theorem dX3_growth_42 : decode cX3_growth 42 = .ok (.iload_n 3, 1) := by decide +kernel
theorem dX3_growth_43 : decode cX3_growth 43 = .ok (.ireturn, 1) := by decide +kernel
theorem dX3_nest_0 : decode cX3_nest 0 = .ok (.iload_n 1, 1) := by decide +kernel
theorem dX3_nest_1 : decode cX3_nest 1 = .ok (.invokestatic 37, 3) := by decide +kernel
theorem dX3_nest_4 : decode cX3_nest 4 = .ok (.ifCond .eq 13, 3) := by decide +kernel
theorem dX3_nest_7 : decode cX3_nest 7 = .ok (.iload_n 2, 1) := by decide +kernel
theorem dX3_nest_8 : decode cX3_nest 8 = .ok (.ifCond .lt 9, 3) := by decide +kernel
theorem dX3_nest_11 : decode cX3_nest 11 = .ok (.iload_n 2, 1) := by decide +kernel
theorem dX3_nest_12 : decode cX3_nest 12 = .ok (.bipush 30, 2) := by decide +kernel
theorem dX3_nest_14 : decode cX3_nest 14 = .ok (.if_icmp .le 5, 3) := by decide +kernel
theorem dX3_nest_17 : decode cX3_nest 17 = .ok (.iconst (-1), 1) := by decide +kernel
theorem dX3_nest_18 : decode cX3_nest 18 = .ok (.ireturn, 1) := by decide +kernel
theorem dX3_nest_19 : decode cX3_nest 19 = .ok (.aload_n 0, 1) := by decide +kernel
theorem dX3_nest_20 : decode cX3_nest 20 = .ok (.invokevirtual 41, 3) := by decide +kernel
theorem dX3_nest_23 : decode cX3_nest 23 = .ok (.aload_n 0, 1) := by decide +kernel
theorem dX3_nest_24 : decode cX3_nest 24 = .ok (.getfield 10, 3) := by decide +kernel
theorem dX3_nest_27 : decode cX3_nest 27 = .ok (.getfield 51, 3) := by decide +kernel
theorem dX3_nest_30 : decode cX3_nest 30 = .ok (.iload_n 1, 1) := by decide +kernel
theorem dX3_nest_31 : decode cX3_nest 31 = .ok (.iaload, 1) := by decide +kernel
theorem dX3_nest_32 : decode cX3_nest 32 = .ok (.istore_n 3, 1) := by decide +kernel
theorem dX3_nest_33 : decode cX3_nest 33 = .ok (.aload_n 0, 1) := by decide +kernel
theorem dX3_nest_34 : decode cX3_nest 34 = .ok (.getfield 10, 3) := by decide +kernel
theorem dX3_nest_37 : decode cX3_nest 37 = .ok (.getfield 51, 3) := by decide +kernel
theorem dX3_nest_40 : decode cX3_nest 40 = .ok (.iload_n 1, 1) := by decide +kernel
theorem dX3_nest_41 : decode cX3_nest 41 = .ok (.aload_n 0, 1) := by decide +kernel
theorem dX3_nest_42 : decode cX3_nest 42 = .ok (.getfield 10, 3) := by decide +kernel
theorem dX3_nest_45 : decode cX3_nest 45 = .ok (.getfield 54, 3) := by decide +kernel
theorem dX3_nest_48 : decode cX3_nest 48 = .ok (.iload_n 2, 1) := by decide +kernel
theorem dX3_nest_49 : decode cX3_nest 49 = .ok (.iadd, 1) := by decide +kernel
theorem dX3_nest_50 : decode cX3_nest 50 = .ok (.iastore, 1) := by decide +kernel
theorem dX3_nest_51 : decode cX3_nest 51 = .ok (.iload_n 3, 1) := by decide +kernel
theorem dX3_nest_52 : decode cX3_nest 52 = .ok (.ireturn, 1) := by decide +kernel
theorem dX3_clip_0 : decode cX3_clip 0 = .ok (.iload_n 1, 1) := by decide +kernel
theorem dX3_clip_1 : decode cX3_clip 1 = .ok (.invokestatic 37, 3) := by decide +kernel
theorem dX3_clip_4 : decode cX3_clip 4 = .ok (.ifCond .eq 14, 3) := by decide +kernel
theorem dX3_clip_7 : decode cX3_clip 7 = .ok (.iload_n 2, 1) := by decide +kernel
theorem dX3_clip_8 : decode cX3_clip 8 = .ok (.iconst 1, 1) := by decide +kernel
theorem dX3_clip_9 : decode cX3_clip 9 = .ok (.if_icmp .lt 9, 3) := by decide +kernel
theorem dX3_clip_12 : decode cX3_clip 12 = .ok (.iload_n 2, 1) := by decide +kernel
theorem dX3_clip_13 : decode cX3_clip 13 = .ok (.bipush 99, 2) := by decide +kernel
theorem dX3_clip_15 : decode cX3_clip 15 = .ok (.if_icmp .le 5, 3) := by decide +kernel
theorem dX3_clip_18 : decode cX3_clip 18 = .ok (.iconst (-1), 1) := by decide +kernel
theorem dX3_clip_19 : decode cX3_clip 19 = .ok (.ireturn, 1) := by decide +kernel
theorem dX3_clip_20 : decode cX3_clip 20 = .ok (.aload_n 0, 1) := by decide +kernel
theorem dX3_clip_21 : decode cX3_clip 21 = .ok (.invokevirtual 41, 3) := by decide +kernel
theorem dX3_clip_24 : decode cX3_clip 24 = .ok (.aload_n 0, 1) := by decide +kernel
theorem dX3_clip_25 : decode cX3_clip 25 = .ok (.getfield 10, 3) := by decide +kernel
theorem dX3_clip_28 : decode cX3_clip 28 = .ok (.iload_n 1, 1) := by decide +kernel
theorem dX3_clip_29 : decode cX3_clip 29 = .ok (.invokevirtual 58, 3) := by decide +kernel
theorem dX3_clip_32 : decode cX3_clip 32 = .ok (.ifCond .eq 9, 3) := by decide +kernel
theorem dX3_clip_35 : decode cX3_clip 35 = .ok (.aload_n 0, 1) := by decide +kernel
theorem dX3_clip_36 : decode cX3_clip 36 = .ok (.iconst 3, 1) := by decide +kernel
theorem dX3_clip_37 : decode cX3_clip 37 = .ok (.invokevirtual 61, 3) := by decide +kernel
theorem dX3_clip_40 : decode cX3_clip 40 = .ok (.ireturn, 1) := by decide +kernel
theorem dX3_clip_41 : decode cX3_clip 41 = .ok (.iload_n 2, 1) := by decide +kernel
theorem dX3_clip_42 : decode cX3_clip 42 = .ok (.aload_n 0, 1) := by decide +kernel
theorem dX3_clip_43 : decode cX3_clip 43 = .ok (.getfield 10, 3) := by decide +kernel
theorem dX3_clip_46 : decode cX3_clip 46 = .ok (.getfield 44, 3) := by decide +kernel
theorem dX3_clip_49 : decode cX3_clip 49 = .ok (.iload_n 1, 1) := by decide +kernel
theorem dX3_clip_50 : decode cX3_clip 50 = .ok (.iaload, 1) := by decide +kernel
theorem dX3_clip_51 : decode cX3_clip 51 = .ok (.if_icmp .le 9, 3) := by decide +kernel
theorem dX3_clip_54 : decode cX3_clip 54 = .ok (.aload_n 0, 1) := by decide +kernel
theorem dX3_clip_55 : decode cX3_clip 55 = .ok (.iconst 4, 1) := by decide +kernel
theorem dX3_clip_56 : decode cX3_clip 56 = .ok (.invokevirtual 61, 3) := by decide +kernel
theorem dX3_clip_59 : decode cX3_clip 59 = .ok (.ireturn, 1) := by decide +kernel
theorem dX3_clip_60 : decode cX3_clip 60 = .ok (.aload_n 0, 1) := by decide +kernel
theorem dX3_clip_61 : decode cX3_clip 61 = .ok (.getfield 10, 3) := by decide +kernel
theorem dX3_clip_64 : decode cX3_clip 64 = .ok (.iload_n 1, 1) := by decide +kernel
theorem dX3_clip_65 : decode cX3_clip 65 = .ok (.iload_n 2, 1) := by decide +kernel
theorem dX3_clip_66 : decode cX3_clip 66 = .ok (.invokevirtual 65, 3) := by decide +kernel
theorem dX3_clip_69 : decode cX3_clip 69 = .ok (.bipush 10, 2) := by decide +kernel
theorem dX3_clip_71 : decode cX3_clip 71 = .ok (.aload_n 0, 1) := by decide +kernel
theorem dX3_clip_72 : decode cX3_clip 72 = .ok (.getfield 10, 3) := by decide +kernel
theorem dX3_clip_75 : decode cX3_clip 75 = .ok (.getfield 44, 3) := by decide +kernel
theorem dX3_clip_78 : decode cX3_clip 78 = .ok (.iload_n 1, 1) := by decide +kernel
theorem dX3_clip_79 : decode cX3_clip 79 = .ok (.iaload, 1) := by decide +kernel
theorem dX3_clip_80 : decode cX3_clip 80 = .ok (.iadd, 1) := by decide +kernel
theorem dX3_clip_81 : decode cX3_clip 81 = .ok (.ireturn, 1) := by decide +kernel
theorem dX3_plan_0 : decode cX3_plan 0 = .ok (.aload_n 0, 1) := by decide +kernel
theorem dX3_plan_1 : decode cX3_plan 1 = .ok (.invokevirtual 41, 3) := by decide +kernel
theorem dX3_plan_4 : decode cX3_plan 4 = .ok (.aload_n 0, 1) := by decide +kernel
theorem dX3_plan_5 : decode cX3_plan 5 = .ok (.getfield 26, 3) := by decide +kernel
theorem dX3_plan_8 : decode cX3_plan 8 = .ok (.aload_n 0, 1) := by decide +kernel
theorem dX3_plan_9 : decode cX3_plan 9 = .ok (.getfield 10, 3) := by decide +kernel
theorem dX3_plan_12 : decode cX3_plan 12 = .ok (.invokevirtual 69, 3) := by decide +kernel
theorem dX3_plan_15 : decode cX3_plan 15 = .ok (.ifCond .ne 9, 3) := by decide +kernel
theorem dX3_plan_18 : decode cX3_plan 18 = .ok (.aload_n 0, 1) := by decide +kernel
theorem dX3_plan_19 : decode cX3_plan 19 = .ok (.iconst 4, 1) := by decide +kernel
theorem dX3_plan_20 : decode cX3_plan 20 = .ok (.invokevirtual 61, 3) := by decide +kernel
theorem dX3_plan_23 : decode cX3_plan 23 = .ok (.ireturn, 1) := by decide +kernel
theorem dX3_plan_24 : decode cX3_plan 24 = .ok (.aload_n 0, 1) := by decide +kernel
theorem dX3_plan_25 : decode cX3_plan 25 = .ok (.invokevirtual 73, 3) := by decide +kernel
theorem dX3_plan_28 : decode cX3_plan 28 = .ok (.ifCond .eq 9, 3) := by decide +kernel
theorem dX3_plan_31 : decode cX3_plan 31 = .ok (.aload_n 0, 1) := by decide +kernel
theorem dX3_plan_32 : decode cX3_plan 32 = .ok (.iconst 3, 1) := by decide +kernel
theorem dX3_plan_33 : decode cX3_plan 33 = .ok (.invokevirtual 61, 3) := by decide +kernel
theorem dX3_plan_36 : decode cX3_plan 36 = .ok (.ireturn, 1) := by decide +kernel
theorem dX3_plan_37 : decode cX3_plan 37 = .ok (.iconst 0, 1) := by decide +kernel
theorem dX3_plan_38 : decode cX3_plan 38 = .ok (.istore_n 1, 1) := by decide +kernel
theorem dX3_plan_39 : decode cX3_plan 39 = .ok (.iconst 0, 1) := by decide +kernel
theorem dX3_plan_40 : decode cX3_plan 40 = .ok (.istore_n 2, 1) := by decide +kernel
theorem dX3_plan_41 : decode cX3_plan 41 = .ok (.iload_n 2, 1) := by decide +kernel
theorem dX3_plan_42 : decode cX3_plan 42 = .ok (.bipush 8, 2) := by decide +kernel
theorem dX3_plan_44 : decode cX3_plan 44 = .ok (.if_icmp .ge 46, 3) := by decide +kernel
theorem dX3_plan_47 : decode cX3_plan 47 = .ok (.aload_n 0, 1) := by decide +kernel
theorem dX3_plan_48 : decode cX3_plan 48 = .ok (.getfield 10, 3) := by decide +kernel
theorem dX3_plan_51 : decode cX3_plan 51 = .ok (.getfield 44, 3) := by decide +kernel
theorem dX3_plan_54 : decode cX3_plan 54 = .ok (.iload_n 2, 1) := by decide +kernel
theorem dX3_plan_55 : decode cX3_plan 55 = .ok (.iaload, 1) := by decide +kernel
theorem dX3_plan_56 : decode cX3_plan 56 = .ok (.aload_n 0, 1) := by decide +kernel
theorem dX3_plan_57 : decode cX3_plan 57 = .ok (.getfield 26, 3) := by decide +kernel
theorem dX3_plan_60 : decode cX3_plan 60 = .ok (.getfield 77, 3) := by decide +kernel
theorem dX3_plan_63 : decode cX3_plan 63 = .ok (.iload_n 2, 1) := by decide +kernel
theorem dX3_plan_64 : decode cX3_plan 64 = .ok (.iaload, 1) := by decide +kernel
theorem dX3_plan_65 : decode cX3_plan 65 = .ok (.isub, 1) := by decide +kernel
theorem dX3_plan_66 : decode cX3_plan 66 = .ok (.istore_n 3, 1) := by decide +kernel
theorem dX3_plan_67 : decode cX3_plan 67 = .ok (.iload_n 3, 1) := by decide +kernel
theorem dX3_plan_68 : decode cX3_plan 68 = .ok (.ifCond .le 16, 3) := by decide +kernel
theorem dX3_plan_71 : decode cX3_plan 71 = .ok (.aload_n 0, 1) := by decide +kernel
theorem dX3_plan_72 : decode cX3_plan 72 = .ok (.getfield 10, 3) := by decide +kernel
theorem dX3_plan_75 : decode cX3_plan 75 = .ok (.iload_n 2, 1) := by decide +kernel
theorem dX3_plan_76 : decode cX3_plan 76 = .ok (.iload_n 3, 1) := by decide +kernel
theorem dX3_plan_77 : decode cX3_plan 77 = .ok (.invokevirtual 65, 3) := by decide +kernel
theorem dX3_plan_80 : decode cX3_plan 80 = .ok (.iload_n 1, 1) := by decide +kernel
theorem dX3_plan_81 : decode cX3_plan 81 = .ok (.iload_n 3, 1) := by decide +kernel
theorem dX3_plan_82 : decode cX3_plan 82 = .ok (.iadd, 1) := by decide +kernel
theorem dX3_plan_83 : decode cX3_plan 83 = .ok (.istore_n 1, 1) := by decide +kernel
theorem dX3_plan_84 : decode cX3_plan 84 = .ok (.iinc 2 1, 3) := by decide +kernel
theorem dX3_plan_87 : decode cX3_plan 87 = .ok (.goto (-46), 3) := by decide +kernel
theorem dX3_plan_90 : decode cX3_plan 90 = .ok (.bipush 10, 2) := by decide +kernel
theorem dX3_plan_92 : decode cX3_plan 92 = .ok (.iload_n 1, 1) := by decide +kernel
theorem dX3_plan_93 : decode cX3_plan 93 = .ok (.iadd, 1) := by decide +kernel
theorem dX3_plan_94 : decode cX3_plan 94 = .ok (.ireturn, 1) := by decide +kernel
theorem dX3_day_0 : decode cX3_day 0 = .ok (.aload_n 0, 1) := by decide +kernel
theorem dX3_day_1 : decode cX3_day 1 = .ok (.invokevirtual 41, 3) := by decide +kernel
theorem dX3_day_4 : decode cX3_day 4 = .ok (.aload_n 0, 1) := by decide +kernel
theorem dX3_day_5 : decode cX3_day 5 = .ok (.getfield 10, 3) := by decide +kernel
theorem dX3_day_8 : decode cX3_day 8 = .ok (.invokevirtual 80, 3) := by decide +kernel
theorem dX3_day_11 : decode cX3_day 11 = .ok (.aload_n 0, 1) := by decide +kernel
theorem dX3_day_12 : decode cX3_day 12 = .ok (.getfield 10, 3) := by decide +kernel
theorem dX3_day_15 : decode cX3_day 15 = .ok (.iconst (-1), 1) := by decide +kernel
theorem dX3_day_16 : decode cX3_day 16 = .ok (.iconst 0, 1) := by decide +kernel
theorem dX3_day_17 : decode cX3_day 17 = .ok (.invokevirtual 83, 3) := by decide +kernel
theorem dX3_day_20 : decode cX3_day 20 = .ok (.ireturn, 1) := by decide +kernel
theorem dX3_sign_0 : decode cX3_sign 0 = .ok (.aload_n 0, 1) := by decide +kernel
theorem dX3_sign_1 : decode cX3_sign 1 = .ok (.iload_n 1, 1) := by decide +kernel
theorem dX3_sign_2 : decode cX3_sign 2 = .ok (.iload_n 2, 1) := by decide +kernel
theorem dX3_sign_3 : decode cX3_sign 3 = .ok (.iload_n 3, 1) := by decide +kernel
theorem dX3_sign_4 : decode cX3_sign 4 = .ok (.invokevirtual 87, 3) := by decide +kernel
theorem dX3_sign_7 : decode cX3_sign 7 = .ok (.istore 4, 2) := by decide +kernel
theorem dX3_sign_9 : decode cX3_sign 9 = .ok (.iload 4, 2) := by decide +kernel
theorem dX3_sign_11 : decode cX3_sign 11 = .ok (.ifCond .eq 6, 3) := by decide +kernel
theorem dX3_sign_14 : decode cX3_sign 14 = .ok (.iload 4, 2) := by decide +kernel
theorem dX3_sign_16 : decode cX3_sign 16 = .ok (.ireturn, 1) := by decide +kernel
theorem dX3_sign_17 : decode cX3_sign 17 = .ok (.aload_n 0, 1) := by decide +kernel
theorem dX3_sign_18 : decode cX3_sign 18 = .ok (.invokevirtual 41, 3) := by decide +kernel
theorem dX3_sign_21 : decode cX3_sign 21 = .ok (.aload_n 0, 1) := by decide +kernel
theorem dX3_sign_22 : decode cX3_sign 22 = .ok (.iload_n 1, 1) := by decide +kernel
theorem dX3_sign_23 : decode cX3_sign 23 = .ok (.iload_n 2, 1) := by decide +kernel
theorem dX3_sign_24 : decode cX3_sign 24 = .ok (.iload_n 3, 1) := by decide +kernel
theorem dX3_sign_25 : decode cX3_sign 25 = .ok (.invokevirtual 91, 3) := by decide +kernel
theorem dX3_sign_28 : decode cX3_sign 28 = .ok (.ireturn, 1) := by decide +kernel
theorem dX3_cancel_0 : decode cX3_cancel 0 = .ok (.aload_n 0, 1) := by decide +kernel
theorem dX3_cancel_1 : decode cX3_cancel 1 = .ok (.iload_n 1, 1) := by decide +kernel
theorem dX3_cancel_2 : decode cX3_cancel 2 = .ok (.invokevirtual 94, 3) := by decide +kernel
theorem dX3_cancel_5 : decode cX3_cancel 5 = .ok (.ifCond .ne 5, 3) := by decide +kernel
theorem dX3_cancel_8 : decode cX3_cancel 8 = .ok (.iconst (-1), 1) := by decide +kernel
theorem dX3_cancel_9 : decode cX3_cancel 9 = .ok (.ireturn, 1) := by decide +kernel
theorem dX3_cancel_10 : decode cX3_cancel 10 = .ok (.aload_n 0, 1) := by decide +kernel
theorem dX3_cancel_11 : decode cX3_cancel 11 = .ok (.invokevirtual 41, 3) := by decide +kernel
theorem dX3_cancel_14 : decode cX3_cancel 14 = .ok (.aload_n 0, 1) := by decide +kernel
theorem dX3_cancel_15 : decode cX3_cancel 15 = .ok (.getfield 10, 3) := by decide +kernel
theorem dX3_cancel_18 : decode cX3_cancel 18 = .ok (.iload_n 1, 1) := by decide +kernel
theorem dX3_cancel_19 : decode cX3_cancel 19 = .ok (.invokevirtual 97, 3) := by decide +kernel
theorem dX3_cancel_22 : decode cX3_cancel 22 = .ok (.aload_n 0, 1) := by decide +kernel
theorem dX3_cancel_23 : decode cX3_cancel 23 = .ok (.getfield 10, 3) := by decide +kernel
theorem dX3_cancel_26 : decode cX3_cancel 26 = .ok (.getfield 101, 3) := by decide +kernel
theorem dX3_cancel_29 : decode cX3_cancel 29 = .ok (.ireturn, 1) := by decide +kernel
theorem dX3_freeze_0 : decode cX3_freeze 0 = .ok (.aload_n 0, 1) := by decide +kernel
theorem dX3_freeze_1 : decode cX3_freeze 1 = .ok (.iload_n 1, 1) := by decide +kernel
theorem dX3_freeze_2 : decode cX3_freeze 2 = .ok (.invokevirtual 94, 3) := by decide +kernel
theorem dX3_freeze_5 : decode cX3_freeze 5 = .ok (.ifCond .eq 14, 3) := by decide +kernel
theorem dX3_freeze_8 : decode cX3_freeze 8 = .ok (.iload_n 2, 1) := by decide +kernel
theorem dX3_freeze_9 : decode cX3_freeze 9 = .ok (.iconst 1, 1) := by decide +kernel
theorem dX3_freeze_10 : decode cX3_freeze 10 = .ok (.if_icmp .lt 9, 3) := by decide +kernel
theorem dX3_freeze_13 : decode cX3_freeze 13 = .ok (.iload_n 2, 1) := by decide +kernel
theorem dX3_freeze_14 : decode cX3_freeze 14 = .ok (.bipush 30, 2) := by decide +kernel
theorem dX3_freeze_16 : decode cX3_freeze 16 = .ok (.if_icmp .le 5, 3) := by decide +kernel
theorem dX3_freeze_19 : decode cX3_freeze 19 = .ok (.iconst (-1), 1) := by decide +kernel
theorem dX3_freeze_20 : decode cX3_freeze 20 = .ok (.ireturn, 1) := by decide +kernel
theorem dX3_freeze_21 : decode cX3_freeze 21 = .ok (.aload_n 0, 1) := by decide +kernel
theorem dX3_freeze_22 : decode cX3_freeze 22 = .ok (.invokevirtual 41, 3) := by decide +kernel
theorem dX3_freeze_25 : decode cX3_freeze 25 = .ok (.aload_n 0, 1) := by decide +kernel
theorem dX3_freeze_26 : decode cX3_freeze 26 = .ok (.getfield 10, 3) := by decide +kernel
theorem dX3_freeze_29 : decode cX3_freeze 29 = .ok (.iload_n 1, 1) := by decide +kernel
theorem dX3_freeze_30 : decode cX3_freeze 30 = .ok (.invokevirtual 104, 3) := by decide +kernel
theorem dX3_freeze_33 : decode cX3_freeze 33 = .ok (.ifCond .eq 16, 3) := by decide +kernel
theorem dX3_freeze_36 : decode cX3_freeze 36 = .ok (.aload_n 0, 1) := by decide +kernel
theorem dX3_freeze_37 : decode cX3_freeze 37 = .ok (.getfield 10, 3) := by decide +kernel
theorem dX3_freeze_40 : decode cX3_freeze 40 = .ok (.dup, 1) := by decide +kernel
theorem dX3_freeze_41 : decode cX3_freeze 41 = .ok (.getfield 107, 3) := by decide +kernel
theorem dX3_freeze_44 : decode cX3_freeze 44 = .ok (.iconst 1, 1) := by decide +kernel
theorem dX3_freeze_45 : decode cX3_freeze 45 = .ok (.iadd, 1) := by decide +kernel
theorem dX3_freeze_46 : decode cX3_freeze 46 = .ok (.putfield 107, 3) := by decide +kernel
theorem dX3_freeze_49 : decode cX3_freeze 49 = .ok (.aload_n 0, 1) := by decide +kernel
theorem dX3_freeze_50 : decode cX3_freeze 50 = .ok (.getfield 10, 3) := by decide +kernel
theorem dX3_freeze_53 : decode cX3_freeze 53 = .ok (.getfield 110, 3) := by decide +kernel
theorem dX3_freeze_56 : decode cX3_freeze 56 = .ok (.iload_n 1, 1) := by decide +kernel
theorem dX3_freeze_57 : decode cX3_freeze 57 = .ok (.aload_n 0, 1) := by decide +kernel
theorem dX3_freeze_58 : decode cX3_freeze 58 = .ok (.getfield 10, 3) := by decide +kernel
theorem dX3_freeze_61 : decode cX3_freeze 61 = .ok (.getfield 54, 3) := by decide +kernel
theorem dX3_freeze_64 : decode cX3_freeze 64 = .ok (.iload_n 2, 1) := by decide +kernel
theorem dX3_freeze_65 : decode cX3_freeze 65 = .ok (.iadd, 1) := by decide +kernel
theorem dX3_freeze_66 : decode cX3_freeze 66 = .ok (.iastore, 1) := by decide +kernel
theorem dX3_freeze_67 : decode cX3_freeze 67 = .ok (.aload_n 0, 1) := by decide +kernel
theorem dX3_freeze_68 : decode cX3_freeze 68 = .ok (.getfield 10, 3) := by decide +kernel
theorem dX3_freeze_71 : decode cX3_freeze 71 = .ok (.getfield 107, 3) := by decide +kernel
theorem dX3_freeze_74 : decode cX3_freeze 74 = .ok (.ireturn, 1) := by decide +kernel
theorem dX3_thaw_0 : decode cX3_thaw 0 = .ok (.aload_n 0, 1) := by decide +kernel
theorem dX3_thaw_1 : decode cX3_thaw 1 = .ok (.iload_n 1, 1) := by decide +kernel
theorem dX3_thaw_2 : decode cX3_thaw 2 = .ok (.invokevirtual 94, 3) := by decide +kernel
theorem dX3_thaw_5 : decode cX3_thaw 5 = .ok (.ifCond .ne 5, 3) := by decide +kernel
theorem dX3_thaw_8 : decode cX3_thaw 8 = .ok (.iconst (-1), 1) := by decide +kernel
theorem dX3_thaw_9 : decode cX3_thaw 9 = .ok (.ireturn, 1) := by decide +kernel
theorem dX3_thaw_10 : decode cX3_thaw 10 = .ok (.aload_n 0, 1) := by decide +kernel
theorem dX3_thaw_11 : decode cX3_thaw 11 = .ok (.invokevirtual 41, 3) := by decide +kernel
theorem dX3_thaw_14 : decode cX3_thaw 14 = .ok (.aload_n 0, 1) := by decide +kernel
theorem dX3_thaw_15 : decode cX3_thaw 15 = .ok (.getfield 10, 3) := by decide +kernel
theorem dX3_thaw_18 : decode cX3_thaw 18 = .ok (.iload_n 1, 1) := by decide +kernel
theorem dX3_thaw_19 : decode cX3_thaw 19 = .ok (.invokevirtual 113, 3) := by decide +kernel
theorem dX3_thaw_22 : decode cX3_thaw 22 = .ok (.ifCond .eq 9, 3) := by decide +kernel
theorem dX3_thaw_25 : decode cX3_thaw 25 = .ok (.aload_n 0, 1) := by decide +kernel
theorem dX3_thaw_26 : decode cX3_thaw 26 = .ok (.iconst 5, 1) := by decide +kernel
theorem dX3_thaw_27 : decode cX3_thaw 27 = .ok (.invokevirtual 61, 3) := by decide +kernel
theorem dX3_thaw_30 : decode cX3_thaw 30 = .ok (.ireturn, 1) := by decide +kernel
theorem dX3_thaw_31 : decode cX3_thaw 31 = .ok (.aload_n 0, 1) := by decide +kernel
theorem dX3_thaw_32 : decode cX3_thaw 32 = .ok (.getfield 10, 3) := by decide +kernel
theorem dX3_thaw_35 : decode cX3_thaw 35 = .ok (.getfield 110, 3) := by decide +kernel
theorem dX3_thaw_38 : decode cX3_thaw 38 = .ok (.iload_n 1, 1) := by decide +kernel
theorem dX3_thaw_39 : decode cX3_thaw 39 = .ok (.iaload, 1) := by decide +kernel
theorem dX3_thaw_40 : decode cX3_thaw 40 = .ok (.aload_n 0, 1) := by decide +kernel
theorem dX3_thaw_41 : decode cX3_thaw 41 = .ok (.getfield 10, 3) := by decide +kernel
theorem dX3_thaw_44 : decode cX3_thaw 44 = .ok (.getfield 54, 3) := by decide +kernel
theorem dX3_thaw_47 : decode cX3_thaw 47 = .ok (.isub, 1) := by decide +kernel
theorem dX3_thaw_48 : decode cX3_thaw 48 = .ok (.istore_n 2, 1) := by decide +kernel
theorem dX3_thaw_49 : decode cX3_thaw 49 = .ok (.iload_n 2, 1) := by decide +kernel
theorem dX3_thaw_50 : decode cX3_thaw 50 = .ok (.aload_n 0, 1) := by decide +kernel
theorem dX3_thaw_51 : decode cX3_thaw 51 = .ok (.getfield 10, 3) := by decide +kernel
theorem dX3_thaw_54 : decode cX3_thaw 54 = .ok (.getfield 107, 3) := by decide +kernel
theorem dX3_thaw_57 : decode cX3_thaw 57 = .ok (.if_icmp .le 10, 3) := by decide +kernel
theorem dX3_thaw_60 : decode cX3_thaw 60 = .ok (.aload_n 0, 1) := by decide +kernel
theorem dX3_thaw_61 : decode cX3_thaw 61 = .ok (.bipush 6, 2) := by decide +kernel
theorem dX3_thaw_63 : decode cX3_thaw 63 = .ok (.invokevirtual 61, 3) := by decide +kernel
theorem dX3_thaw_66 : decode cX3_thaw 66 = .ok (.ireturn, 1) := by decide +kernel
theorem dX3_thaw_67 : decode cX3_thaw 67 = .ok (.aload_n 0, 1) := by decide +kernel
theorem dX3_thaw_68 : decode cX3_thaw 68 = .ok (.getfield 10, 3) := by decide +kernel
theorem dX3_thaw_71 : decode cX3_thaw 71 = .ok (.dup, 1) := by decide +kernel
theorem dX3_thaw_72 : decode cX3_thaw 72 = .ok (.getfield 107, 3) := by decide +kernel
theorem dX3_thaw_75 : decode cX3_thaw 75 = .ok (.iload_n 2, 1) := by decide +kernel
theorem dX3_thaw_76 : decode cX3_thaw 76 = .ok (.isub, 1) := by decide +kernel
theorem dX3_thaw_77 : decode cX3_thaw 77 = .ok (.putfield 107, 3) := by decide +kernel
theorem dX3_thaw_80 : decode cX3_thaw 80 = .ok (.aload_n 0, 1) := by decide +kernel
theorem dX3_thaw_81 : decode cX3_thaw 81 = .ok (.getfield 10, 3) := by decide +kernel
theorem dX3_thaw_84 : decode cX3_thaw 84 = .ok (.getfield 110, 3) := by decide +kernel
theorem dX3_thaw_87 : decode cX3_thaw 87 = .ok (.iload_n 1, 1) := by decide +kernel
theorem dX3_thaw_88 : decode cX3_thaw 88 = .ok (.aload_n 0, 1) := by decide +kernel
theorem dX3_thaw_89 : decode cX3_thaw 89 = .ok (.getfield 10, 3) := by decide +kernel
theorem dX3_thaw_92 : decode cX3_thaw 92 = .ok (.getfield 54, 3) := by decide +kernel
theorem dX3_thaw_95 : decode cX3_thaw 95 = .ok (.iastore, 1) := by decide +kernel
theorem dX3_thaw_96 : decode cX3_thaw 96 = .ok (.bipush 10, 2) := by decide +kernel
theorem dX3_thaw_98 : decode cX3_thaw 98 = .ok (.aload_n 0, 1) := by decide +kernel
theorem dX3_thaw_99 : decode cX3_thaw 99 = .ok (.getfield 10, 3) := by decide +kernel
theorem dX3_thaw_102 : decode cX3_thaw 102 = .ok (.getfield 107, 3) := by decide +kernel
theorem dX3_thaw_105 : decode cX3_thaw 105 = .ok (.iadd, 1) := by decide +kernel
theorem dX3_thaw_106 : decode cX3_thaw 106 = .ok (.ireturn, 1) := by decide +kernel
theorem dX3_append_0 : decode cX3_append 0 = .ok (.iload_n 1, 1) := by decide +kernel
theorem dX3_append_1 : decode cX3_append 1 = .ok (.bipush 33, 2) := by decide +kernel
theorem dX3_append_3 : decode cX3_append 3 = .ok (.if_icmp .lt 9, 3) := by decide +kernel
theorem dX3_append_6 : decode cX3_append 6 = .ok (.iload_n 1, 1) := by decide +kernel
theorem dX3_append_7 : decode cX3_append 7 = .ok (.bipush 126, 2) := by decide +kernel
theorem dX3_append_9 : decode cX3_append 9 = .ok (.if_icmp .le 5, 3) := by decide +kernel
theorem dX3_append_12 : decode cX3_append 12 = .ok (.iconst (-1), 1) := by decide +kernel
theorem dX3_append_13 : decode cX3_append 13 = .ok (.ireturn, 1) := by decide +kernel
theorem dX3_append_14 : decode cX3_append 14 = .ok (.aload_n 0, 1) := by decide +kernel
theorem dX3_append_15 : decode cX3_append 15 = .ok (.getfield 33, 3) := by decide +kernel
theorem dX3_append_18 : decode cX3_append 18 = .ok (.getfield 116, 3) := by decide +kernel
theorem dX3_append_21 : decode cX3_append 21 = .ok (.bipush 60, 2) := by decide +kernel
theorem dX3_append_23 : decode cX3_append 23 = .ok (.if_icmp .lt 6, 3) := by decide +kernel
theorem dX3_append_26 : decode cX3_append 26 = .ok (.bipush (-3), 2) := by decide +kernel
theorem dX3_append_28 : decode cX3_append 28 = .ok (.ireturn, 1) := by decide +kernel
theorem dX3_append_29 : decode cX3_append 29 = .ok (.aload_n 0, 1) := by decide +kernel
theorem dX3_append_30 : decode cX3_append 30 = .ok (.getfield 33, 3) := by decide +kernel
theorem dX3_append_33 : decode cX3_append 33 = .ok (.getfield 119, 3) := by decide +kernel
theorem dX3_append_36 : decode cX3_append 36 = .ok (.aload_n 0, 1) := by decide +kernel
theorem dX3_append_37 : decode cX3_append 37 = .ok (.getfield 33, 3) := by decide +kernel
theorem dX3_append_40 : decode cX3_append 40 = .ok (.getfield 116, 3) := by decide +kernel
theorem dX3_append_43 : decode cX3_append 43 = .ok (.iload_n 1, 1) := by decide +kernel
theorem dX3_append_44 : decode cX3_append 44 = .ok (.iastore, 1) := by decide +kernel
theorem dX3_append_45 : decode cX3_append 45 = .ok (.aload_n 0, 1) := by decide +kernel
theorem dX3_append_46 : decode cX3_append 46 = .ok (.getfield 33, 3) := by decide +kernel
theorem dX3_append_49 : decode cX3_append 49 = .ok (.dup, 1) := by decide +kernel
theorem dX3_append_50 : decode cX3_append 50 = .ok (.getfield 116, 3) := by decide +kernel
theorem dX3_append_53 : decode cX3_append 53 = .ok (.iconst 1, 1) := by decide +kernel
theorem dX3_append_54 : decode cX3_append 54 = .ok (.iadd, 1) := by decide +kernel
theorem dX3_append_55 : decode cX3_append 55 = .ok (.putfield 116, 3) := by decide +kernel
theorem dX3_append_58 : decode cX3_append 58 = .ok (.aload_n 0, 1) := by decide +kernel
theorem dX3_append_59 : decode cX3_append 59 = .ok (.getfield 33, 3) := by decide +kernel
theorem dX3_append_62 : decode cX3_append 62 = .ok (.getfield 116, 3) := by decide +kernel
theorem dX3_append_65 : decode cX3_append 65 = .ok (.ireturn, 1) := by decide +kernel
theorem dX3_clear_0 : decode cX3_clear 0 = .ok (.aload_n 0, 1) := by decide +kernel
theorem dX3_clear_1 : decode cX3_clear 1 = .ok (.getfield 33, 3) := by decide +kernel
theorem dX3_clear_4 : decode cX3_clear 4 = .ok (.getfield 116, 3) := by decide +kernel
theorem dX3_clear_7 : decode cX3_clear 7 = .ok (.istore_n 1, 1) := by decide +kernel
theorem dX3_clear_8 : decode cX3_clear 8 = .ok (.aload_n 0, 1) := by decide +kernel
theorem dX3_clear_9 : decode cX3_clear 9 = .ok (.getfield 33, 3) := by decide +kernel
theorem dX3_clear_12 : decode cX3_clear 12 = .ok (.iconst 0, 1) := by decide +kernel
theorem dX3_clear_13 : decode cX3_clear 13 = .ok (.putfield 116, 3) := by decide +kernel
theorem dX3_clear_16 : decode cX3_clear 16 = .ok (.iload_n 1, 1) := by decide +kernel
theorem dX3_clear_17 : decode cX3_clear 17 = .ok (.ireturn, 1) := by decide +kernel
theorem dX3_fault_0 : decode cX3_fault 0 = .ok (.aload_n 0, 1) := by decide +kernel
theorem dX3_fault_1 : decode cX3_fault 1 = .ok (.getfield 33, 3) := by decide +kernel
theorem dX3_fault_4 : decode cX3_fault 4 = .ok (.invokevirtual 122, 3) := by decide +kernel
theorem dX3_fault_7 : decode cX3_fault 7 = .ok (.ireturn, 1) := by decide +kernel
theorem dX3_signAll_0 : decode cX3_signAll 0 = .ok (.aload_n 0, 1) := by decide +kernel
theorem dX3_signAll_1 : decode cX3_signAll 1 = .ok (.getfield 33, 3) := by decide +kernel
theorem dX3_signAll_4 : decode cX3_signAll 4 = .ok (.invokevirtual 122, 3) := by decide +kernel
theorem dX3_signAll_7 : decode cX3_signAll 7 = .ok (.bipush (-4), 2) := by decide +kernel
theorem dX3_signAll_9 : decode cX3_signAll 9 = .ok (.if_icmp .eq 6, 3) := by decide +kernel
theorem dX3_signAll_12 : decode cX3_signAll 12 = .ok (.bipush (-2), 2) := by decide +kernel
theorem dX3_signAll_14 : decode cX3_signAll 14 = .ok (.ireturn, 1) := by decide +kernel
theorem dX3_signAll_15 : decode cX3_signAll 15 = .ok (.aload_n 0, 1) := by decide +kernel
theorem dX3_signAll_16 : decode cX3_signAll 16 = .ok (.invokevirtual 41, 3) := by decide +kernel
theorem dX3_signAll_19 : decode cX3_signAll 19 = .ok (.aload_n 0, 1) := by decide +kernel
theorem dX3_signAll_20 : decode cX3_signAll 20 = .ok (.iconst 0, 1) := by decide +kernel
theorem dX3_signAll_21 : decode cX3_signAll 21 = .ok (.putfield 126, 3) := by decide +kernel
theorem dX3_signAll_24 : decode cX3_signAll 24 = .ok (.iconst 0, 1) := by decide +kernel
theorem dX3_signAll_25 : decode cX3_signAll 25 = .ok (.istore_n 1, 1) := by decide +kernel
theorem dX3_signAll_26 : decode cX3_signAll 26 = .ok (.iconst 0, 1) := by decide +kernel
theorem dX3_signAll_27 : decode cX3_signAll 27 = .ok (.istore_n 2, 1) := by decide +kernel
theorem dX3_signAll_28 : decode cX3_signAll 28 = .ok (.iload_n 2, 1) := by decide +kernel
theorem dX3_signAll_29 : decode cX3_signAll 29 = .ok (.aload_n 0, 1) := by decide +kernel
theorem dX3_signAll_30 : decode cX3_signAll 30 = .ok (.getfield 33, 3) := by decide +kernel
theorem dX3_signAll_33 : decode cX3_signAll 33 = .ok (.getfield 129, 3) := by decide +kernel
theorem dX3_signAll_36 : decode cX3_signAll 36 = .ok (.if_icmp .ge 57, 3) := by decide +kernel
theorem dX3_signAll_39 : decode cX3_signAll 39 = .ok (.aload_n 0, 1) := by decide +kernel
theorem dX3_signAll_40 : decode cX3_signAll 40 = .ok (.getfield 126, 3) := by decide +kernel
theorem dX3_signAll_43 : decode cX3_signAll 43 = .ok (.ifCond .ne 50, 3) := by decide +kernel
theorem dX3_signAll_46 : decode cX3_signAll 46 = .ok (.aload_n 0, 1) := by decide +kernel
theorem dX3_signAll_47 : decode cX3_signAll 47 = .ok (.iload_n 2, 1) := by decide +kernel
theorem dX3_signAll_48 : decode cX3_signAll 48 = .ok (.invokevirtual 132, 3) := by decide +kernel
theorem dX3_signAll_51 : decode cX3_signAll 51 = .ok (.istore_n 3, 1) := by decide +kernel
theorem dX3_signAll_52 : decode cX3_signAll 52 = .ok (.iload_n 3, 1) := by decide +kernel
theorem dX3_signAll_53 : decode cX3_signAll 53 = .ok (.bipush 10, 2) := by decide +kernel
theorem dX3_signAll_55 : decode cX3_signAll 55 = .ok (.if_icmp .lt 9, 3) := by decide +kernel
theorem dX3_signAll_58 : decode cX3_signAll 58 = .ok (.iinc 1 1, 3) := by decide +kernel
theorem dX3_signAll_61 : decode cX3_signAll 61 = .ok (.goto 26, 3) := by decide +kernel
theorem dX3_signAll_64 : decode cX3_signAll 64 = .ok (.aload_n 0, 1) := by decide +kernel
theorem dX3_signAll_65 : decode cX3_signAll 65 = .ok (.iload_n 3, 1) := by decide +kernel
theorem dX3_signAll_66 : decode cX3_signAll 66 = .ok (.putfield 126, 3) := by decide +kernel
theorem dX3_signAll_69 : decode cX3_signAll 69 = .ok (.aload_n 0, 1) := by decide +kernel
theorem dX3_signAll_70 : decode cX3_signAll 70 = .ok (.iload_n 2, 1) := by decide +kernel
theorem dX3_signAll_71 : decode cX3_signAll 71 = .ok (.putfield 135, 3) := by decide +kernel
theorem dX3_signAll_74 : decode cX3_signAll 74 = .ok (.aload_n 0, 1) := by decide +kernel
theorem dX3_signAll_75 : decode cX3_signAll 75 = .ok (.aload_n 0, 1) := by decide +kernel
theorem dX3_signAll_76 : decode cX3_signAll 76 = .ok (.getfield 33, 3) := by decide +kernel
theorem dX3_signAll_79 : decode cX3_signAll 79 = .ok (.getfield 138, 3) := by decide +kernel
theorem dX3_signAll_82 : decode cX3_signAll 82 = .ok (.iload_n 2, 1) := by decide +kernel
theorem dX3_signAll_83 : decode cX3_signAll 83 = .ok (.iaload, 1) := by decide +kernel
theorem dX3_signAll_84 : decode cX3_signAll 84 = .ok (.putfield 141, 3) := by decide +kernel
theorem dX3_signAll_87 : decode cX3_signAll 87 = .ok (.iinc 2 1, 3) := by decide +kernel
theorem dX3_signAll_90 : decode cX3_signAll 90 = .ok (.goto (-62), 3) := by decide +kernel
theorem dX3_signAll_93 : decode cX3_signAll 93 = .ok (.aload_n 0, 1) := by decide +kernel
theorem dX3_signAll_94 : decode cX3_signAll 94 = .ok (.getfield 33, 3) := by decide +kernel
theorem dX3_signAll_97 : decode cX3_signAll 97 = .ok (.iconst 0, 1) := by decide +kernel
theorem dX3_signAll_98 : decode cX3_signAll 98 = .ok (.putfield 116, 3) := by decide +kernel
theorem dX3_signAll_101 : decode cX3_signAll 101 = .ok (.iload_n 1, 1) := by decide +kernel
theorem dX3_signAll_102 : decode cX3_signAll 102 = .ok (.ireturn, 1) := by decide +kernel
theorem dX3_why_0 : decode cX3_why 0 = .ok (.iload_n 1, 1) := by decide +kernel
theorem dX3_why_1 : decode cX3_why 1 = .ok (.ifCond .lt 8, 3) := by decide +kernel
theorem dX3_why_4 : decode cX3_why 4 = .ok (.iload_n 1, 1) := by decide +kernel
theorem dX3_why_5 : decode cX3_why 5 = .ok (.iconst 2, 1) := by decide +kernel
theorem dX3_why_6 : decode cX3_why 6 = .ok (.if_icmp .le 5, 3) := by decide +kernel
theorem dX3_why_9 : decode cX3_why 9 = .ok (.iconst (-1), 1) := by decide +kernel
theorem dX3_why_10 : decode cX3_why 10 = .ok (.ireturn, 1) := by decide +kernel
theorem dX3_why_11 : decode cX3_why 11 = .ok (.aload_n 0, 1) := by decide +kernel
theorem dX3_why_12 : decode cX3_why 12 = .ok (.getfield 126, 3) := by decide +kernel
theorem dX3_why_15 : decode cX3_why 15 = .ok (.ifCond .ne 6, 3) := by decide +kernel
theorem dX3_why_18 : decode cX3_why 18 = .ok (.bipush (-4), 2) := by decide +kernel
theorem dX3_why_20 : decode cX3_why 20 = .ok (.ireturn, 1) := by decide +kernel
theorem dX3_why_21 : decode cX3_why 21 = .ok (.iload_n 1, 1) := by decide +kernel
theorem dX3_why_22 : decode cX3_why 22 = .ok (.lookupswitch 36 #[(0, 26), (1, 31)], 26) := by decide +kernel
theorem dX3_why_48 : decode cX3_why 48 = .ok (.aload_n 0, 1) := by decide +kernel
theorem dX3_why_49 : decode cX3_why 49 = .ok (.getfield 126, 3) := by decide +kernel
theorem dX3_why_52 : decode cX3_why 52 = .ok (.ireturn, 1) := by decide +kernel
theorem dX3_why_53 : decode cX3_why 53 = .ok (.aload_n 0, 1) := by decide +kernel
theorem dX3_why_54 : decode cX3_why 54 = .ok (.getfield 135, 3) := by decide +kernel
theorem dX3_why_57 : decode cX3_why 57 = .ok (.ireturn, 1) := by decide +kernel
theorem dX3_why_58 : decode cX3_why 58 = .ok (.aload_n 0, 1) := by decide +kernel
theorem dX3_why_59 : decode cX3_why 59 = .ok (.getfield 141, 3) := by decide +kernel
theorem dX3_why_62 : decode cX3_why 62 = .ok (.ireturn, 1) := by decide +kernel
theorem dX3_hedge_0 : decode cX3_hedge 0 = .ok (.iload_n 1, 1) := by decide +kernel
theorem dX3_hedge_1 : decode cX3_hedge 1 = .ok (.invokestatic 37, 3) := by decide +kernel
theorem dX3_hedge_4 : decode cX3_hedge 4 = .ok (.ifCond .ne 5, 3) := by decide +kernel
theorem dX3_hedge_7 : decode cX3_hedge 7 = .ok (.iconst (-1), 1) := by decide +kernel
theorem dX3_hedge_8 : decode cX3_hedge 8 = .ok (.ireturn, 1) := by decide +kernel
theorem dX3_hedge_9 : decode cX3_hedge 9 = .ok (.iload_n 2, 1) := by decide +kernel
theorem dX3_hedge_10 : decode cX3_hedge 10 = .ok (.tableswitch 151 0 7 #[46, 56, 66, 83, 93, 122, 132, 141], 46) := by decide +kernel
theorem dX3_hedge_56 : decode cX3_hedge 56 = .ok (.aload_n 0, 1) := by decide +kernel
theorem dX3_hedge_57 : decode cX3_hedge 57 = .ok (.getfield 10, 3) := by decide +kernel
theorem dX3_hedge_60 : decode cX3_hedge 60 = .ok (.getfield 44, 3) := by decide +kernel
theorem dX3_hedge_63 : decode cX3_hedge 63 = .ok (.iload_n 1, 1) := by decide +kernel
theorem dX3_hedge_64 : decode cX3_hedge 64 = .ok (.iaload, 1) := by decide +kernel
theorem dX3_hedge_65 : decode cX3_hedge 65 = .ok (.ireturn, 1) := by decide +kernel
theorem dX3_hedge_66 : decode cX3_hedge 66 = .ok (.aload_n 0, 1) := by decide +kernel
theorem dX3_hedge_67 : decode cX3_hedge 67 = .ok (.getfield 10, 3) := by decide +kernel
theorem dX3_hedge_70 : decode cX3_hedge 70 = .ok (.getfield 48, 3) := by decide +kernel
theorem dX3_hedge_73 : decode cX3_hedge 73 = .ok (.iload_n 1, 1) := by decide +kernel
theorem dX3_hedge_74 : decode cX3_hedge 74 = .ok (.iaload, 1) := by decide +kernel
theorem dX3_hedge_75 : decode cX3_hedge 75 = .ok (.ireturn, 1) := by decide +kernel
theorem dX3_hedge_76 : decode cX3_hedge 76 = .ok (.aload_n 0, 1) := by decide +kernel
theorem dX3_hedge_77 : decode cX3_hedge 77 = .ok (.getfield 10, 3) := by decide +kernel
theorem dX3_hedge_80 : decode cX3_hedge 80 = .ok (.iload_n 1, 1) := by decide +kernel
theorem dX3_hedge_81 : decode cX3_hedge 81 = .ok (.invokevirtual 58, 3) := by decide +kernel
theorem dX3_hedge_84 : decode cX3_hedge 84 = .ok (.ifCond .eq 7, 3) := by decide +kernel
theorem dX3_hedge_87 : decode cX3_hedge 87 = .ok (.iconst 1, 1) := by decide +kernel
theorem dX3_hedge_88 : decode cX3_hedge 88 = .ok (.goto 4, 3) := by decide +kernel
theorem dX3_hedge_91 : decode cX3_hedge 91 = .ok (.iconst 0, 1) := by decide +kernel
theorem dX3_hedge_92 : decode cX3_hedge 92 = .ok (.ireturn, 1) := by decide +kernel
theorem dX3_hedge_93 : decode cX3_hedge 93 = .ok (.aload_n 0, 1) := by decide +kernel
theorem dX3_hedge_94 : decode cX3_hedge 94 = .ok (.getfield 10, 3) := by decide +kernel
theorem dX3_hedge_97 : decode cX3_hedge 97 = .ok (.getfield 51, 3) := by decide +kernel
theorem dX3_hedge_100 : decode cX3_hedge 100 = .ok (.iload_n 1, 1) := by decide +kernel
theorem dX3_hedge_101 : decode cX3_hedge 101 = .ok (.iaload, 1) := by decide +kernel
theorem dX3_hedge_102 : decode cX3_hedge 102 = .ok (.ireturn, 1) := by decide +kernel
theorem dX3_hedge_103 : decode cX3_hedge 103 = .ok (.aload_n 0, 1) := by decide +kernel
theorem dX3_hedge_104 : decode cX3_hedge 104 = .ok (.getfield 26, 3) := by decide +kernel
theorem dX3_hedge_107 : decode cX3_hedge 107 = .ok (.aload_n 0, 1) := by decide +kernel
theorem dX3_hedge_108 : decode cX3_hedge 108 = .ok (.getfield 10, 3) := by decide +kernel
theorem dX3_hedge_111 : decode cX3_hedge 111 = .ok (.invokevirtual 69, 3) := by decide +kernel
theorem dX3_hedge_114 : decode cX3_hedge 114 = .ok (.ifCond .eq 15, 3) := by decide +kernel
theorem dX3_hedge_117 : decode cX3_hedge 117 = .ok (.aload_n 0, 1) := by decide +kernel
theorem dX3_hedge_118 : decode cX3_hedge 118 = .ok (.getfield 26, 3) := by decide +kernel
theorem dX3_hedge_121 : decode cX3_hedge 121 = .ok (.getfield 77, 3) := by decide +kernel
theorem dX3_hedge_124 : decode cX3_hedge 124 = .ok (.iload_n 1, 1) := by decide +kernel
theorem dX3_hedge_125 : decode cX3_hedge 125 = .ok (.iaload, 1) := by decide +kernel
theorem dX3_hedge_126 : decode cX3_hedge 126 = .ok (.goto 5, 3) := by decide +kernel
theorem dX3_hedge_129 : decode cX3_hedge 129 = .ok (.bipush (-4), 2) := by decide +kernel
theorem dX3_hedge_131 : decode cX3_hedge 131 = .ok (.ireturn, 1) := by decide +kernel
theorem dX3_hedge_132 : decode cX3_hedge 132 = .ok (.aload_n 0, 1) := by decide +kernel
theorem dX3_hedge_133 : decode cX3_hedge 133 = .ok (.getfield 10, 3) := by decide +kernel
theorem dX3_hedge_136 : decode cX3_hedge 136 = .ok (.iload_n 1, 1) := by decide +kernel
theorem dX3_hedge_137 : decode cX3_hedge 137 = .ok (.iconst 0, 1) := by decide +kernel
theorem dX3_hedge_138 : decode cX3_hedge 138 = .ok (.invokevirtual 83, 3) := by decide +kernel
theorem dX3_hedge_141 : decode cX3_hedge 141 = .ok (.ireturn, 1) := by decide +kernel
theorem dX3_hedge_142 : decode cX3_hedge 142 = .ok (.aload_n 0, 1) := by decide +kernel
theorem dX3_hedge_143 : decode cX3_hedge 143 = .ok (.getfield 10, 3) := by decide +kernel
theorem dX3_hedge_146 : decode cX3_hedge 146 = .ok (.iload_n 1, 1) := by decide +kernel
theorem dX3_hedge_147 : decode cX3_hedge 147 = .ok (.invokevirtual 144, 3) := by decide +kernel
theorem dX3_hedge_150 : decode cX3_hedge 150 = .ok (.ireturn, 1) := by decide +kernel
theorem dX3_hedge_151 : decode cX3_hedge 151 = .ok (.aload_n 0, 1) := by decide +kernel
theorem dX3_hedge_152 : decode cX3_hedge 152 = .ok (.getfield 10, 3) := by decide +kernel
theorem dX3_hedge_155 : decode cX3_hedge 155 = .ok (.getfield 147, 3) := by decide +kernel
theorem dX3_hedge_158 : decode cX3_hedge 158 = .ok (.iload_n 1, 1) := by decide +kernel
theorem dX3_hedge_159 : decode cX3_hedge 159 = .ok (.iaload, 1) := by decide +kernel
theorem dX3_hedge_160 : decode cX3_hedge 160 = .ok (.ireturn, 1) := by decide +kernel
theorem dX3_hedge_161 : decode cX3_hedge 161 = .ok (.iconst (-1), 1) := by decide +kernel
theorem dX3_hedge_162 : decode cX3_hedge 162 = .ok (.ireturn, 1) := by decide +kernel
theorem dX3_treaty_0 : decode cX3_treaty 0 = .ok (.aload_n 0, 1) := by decide +kernel
theorem dX3_treaty_1 : decode cX3_treaty 1 = .ok (.iload_n 1, 1) := by decide +kernel
theorem dX3_treaty_2 : decode cX3_treaty 2 = .ok (.invokevirtual 94, 3) := by decide +kernel
theorem dX3_treaty_5 : decode cX3_treaty 5 = .ok (.ifCond .ne 5, 3) := by decide +kernel
theorem dX3_treaty_8 : decode cX3_treaty 8 = .ok (.iconst (-1), 1) := by decide +kernel
theorem dX3_treaty_9 : decode cX3_treaty 9 = .ok (.ireturn, 1) := by decide +kernel
theorem dX3_treaty_10 : decode cX3_treaty 10 = .ok (.iload_n 2, 1) := by decide +kernel
theorem dX3_treaty_11 : decode cX3_treaty 11 = .ok (.tableswitch 150 0 7 #[45, 55, 65, 78, 95, 112, 126, 136], 45) := by decide +kernel
theorem dX3_treaty_56 : decode cX3_treaty 56 = .ok (.aload_n 0, 1) := by decide +kernel
theorem dX3_treaty_57 : decode cX3_treaty 57 = .ok (.getfield 10, 3) := by decide +kernel
theorem dX3_treaty_60 : decode cX3_treaty 60 = .ok (.getfield 150, 3) := by decide +kernel
theorem dX3_treaty_63 : decode cX3_treaty 63 = .ok (.iload_n 1, 1) := by decide +kernel
theorem dX3_treaty_64 : decode cX3_treaty 64 = .ok (.iaload, 1) := by decide +kernel
theorem dX3_treaty_65 : decode cX3_treaty 65 = .ok (.ireturn, 1) := by decide +kernel
theorem dX3_treaty_66 : decode cX3_treaty 66 = .ok (.aload_n 0, 1) := by decide +kernel
theorem dX3_treaty_67 : decode cX3_treaty 67 = .ok (.getfield 10, 3) := by decide +kernel
theorem dX3_treaty_70 : decode cX3_treaty 70 = .ok (.getfield 153, 3) := by decide +kernel
theorem dX3_treaty_73 : decode cX3_treaty 73 = .ok (.iload_n 1, 1) := by decide +kernel
theorem dX3_treaty_74 : decode cX3_treaty 74 = .ok (.iaload, 1) := by decide +kernel
theorem dX3_treaty_75 : decode cX3_treaty 75 = .ok (.ireturn, 1) := by decide +kernel
theorem dX3_treaty_76 : decode cX3_treaty 76 = .ok (.aload_n 0, 1) := by decide +kernel
theorem dX3_treaty_77 : decode cX3_treaty 77 = .ok (.getfield 10, 3) := by decide +kernel
theorem dX3_treaty_80 : decode cX3_treaty 80 = .ok (.getfield 156, 3) := by decide +kernel
theorem dX3_treaty_83 : decode cX3_treaty 83 = .ok (.iload_n 1, 1) := by decide +kernel
theorem dX3_treaty_84 : decode cX3_treaty 84 = .ok (.iaload, 1) := by decide +kernel
theorem dX3_treaty_85 : decode cX3_treaty 85 = .ok (.bipush 100, 2) := by decide +kernel
theorem dX3_treaty_87 : decode cX3_treaty 87 = .ok (.iadd, 1) := by decide +kernel
theorem dX3_treaty_88 : decode cX3_treaty 88 = .ok (.ireturn, 1) := by decide +kernel
theorem dX3_treaty_89 : decode cX3_treaty 89 = .ok (.aload_n 0, 1) := by decide +kernel
theorem dX3_treaty_90 : decode cX3_treaty 90 = .ok (.getfield 10, 3) := by decide +kernel
theorem dX3_treaty_93 : decode cX3_treaty 93 = .ok (.iload_n 1, 1) := by decide +kernel
theorem dX3_treaty_94 : decode cX3_treaty 94 = .ok (.invokevirtual 113, 3) := by decide +kernel
theorem dX3_treaty_97 : decode cX3_treaty 97 = .ok (.ifCond .eq 7, 3) := by decide +kernel
theorem dX3_treaty_100 : decode cX3_treaty 100 = .ok (.iconst 1, 1) := by decide +kernel
theorem dX3_treaty_101 : decode cX3_treaty 101 = .ok (.goto 4, 3) := by decide +kernel
theorem dX3_treaty_104 : decode cX3_treaty 104 = .ok (.iconst 0, 1) := by decide +kernel
theorem dX3_treaty_105 : decode cX3_treaty 105 = .ok (.ireturn, 1) := by decide +kernel
theorem dX3_treaty_106 : decode cX3_treaty 106 = .ok (.aload_n 0, 1) := by decide +kernel
theorem dX3_treaty_107 : decode cX3_treaty 107 = .ok (.getfield 10, 3) := by decide +kernel
theorem dX3_treaty_110 : decode cX3_treaty 110 = .ok (.iload_n 1, 1) := by decide +kernel
theorem dX3_treaty_111 : decode cX3_treaty 111 = .ok (.invokevirtual 104, 3) := by decide +kernel
theorem dX3_treaty_114 : decode cX3_treaty 114 = .ok (.ifCond .eq 7, 3) := by decide +kernel
theorem dX3_treaty_117 : decode cX3_treaty 117 = .ok (.iconst 1, 1) := by decide +kernel
theorem dX3_treaty_118 : decode cX3_treaty 118 = .ok (.goto 4, 3) := by decide +kernel
theorem dX3_treaty_121 : decode cX3_treaty 121 = .ok (.iconst 0, 1) := by decide +kernel
theorem dX3_treaty_122 : decode cX3_treaty 122 = .ok (.ireturn, 1) := by decide +kernel
theorem dX3_treaty_123 : decode cX3_treaty 123 = .ok (.aload_n 0, 1) := by decide +kernel
theorem dX3_treaty_124 : decode cX3_treaty 124 = .ok (.getfield 10, 3) := by decide +kernel
theorem dX3_treaty_127 : decode cX3_treaty 127 = .ok (.iload_n 1, 1) := by decide +kernel
theorem dX3_treaty_128 : decode cX3_treaty 128 = .ok (.iconst 0, 1) := by decide +kernel
theorem dX3_treaty_129 : decode cX3_treaty 129 = .ok (.invokevirtual 159, 3) := by decide +kernel
theorem dX3_treaty_132 : decode cX3_treaty 132 = .ok (.sipush 1000, 3) := by decide +kernel
theorem dX3_treaty_135 : decode cX3_treaty 135 = .ok (.iadd, 1) := by decide +kernel
theorem dX3_treaty_136 : decode cX3_treaty 136 = .ok (.ireturn, 1) := by decide +kernel
theorem dX3_treaty_137 : decode cX3_treaty 137 = .ok (.aload_n 0, 1) := by decide +kernel
theorem dX3_treaty_138 : decode cX3_treaty 138 = .ok (.getfield 10, 3) := by decide +kernel
theorem dX3_treaty_141 : decode cX3_treaty 141 = .ok (.getfield 110, 3) := by decide +kernel
theorem dX3_treaty_144 : decode cX3_treaty 144 = .ok (.iload_n 1, 1) := by decide +kernel
theorem dX3_treaty_145 : decode cX3_treaty 145 = .ok (.iaload, 1) := by decide +kernel
theorem dX3_treaty_146 : decode cX3_treaty 146 = .ok (.ireturn, 1) := by decide +kernel
theorem dX3_treaty_147 : decode cX3_treaty 147 = .ok (.aload_n 0, 1) := by decide +kernel
theorem dX3_treaty_148 : decode cX3_treaty 148 = .ok (.iload_n 1, 1) := by decide +kernel
theorem dX3_treaty_149 : decode cX3_treaty 149 = .ok (.invokevirtual 162, 3) := by decide +kernel
theorem dX3_treaty_152 : decode cX3_treaty 152 = .ok (.ifCond .eq 7, 3) := by decide +kernel
theorem dX3_treaty_155 : decode cX3_treaty 155 = .ok (.iconst 1, 1) := by decide +kernel
theorem dX3_treaty_156 : decode cX3_treaty 156 = .ok (.goto 4, 3) := by decide +kernel
theorem dX3_treaty_159 : decode cX3_treaty 159 = .ok (.iconst 0, 1) := by decide +kernel
theorem dX3_treaty_160 : decode cX3_treaty 160 = .ok (.ireturn, 1) := by decide +kernel
theorem dX3_treaty_161 : decode cX3_treaty 161 = .ok (.iconst (-1), 1) := by decide +kernel
theorem dX3_treaty_162 : decode cX3_treaty 162 = .ok (.ireturn, 1) := by decide +kernel
theorem dX3_bound_0 : decode cX3_bound 0 = .ok (.iload_n 1, 1) := by decide +kernel
theorem dX3_bound_1 : decode cX3_bound 1 = .ok (.invokestatic 37, 3) := by decide +kernel
theorem dX3_bound_4 : decode cX3_bound 4 = .ok (.ifCond .eq 19, 3) := by decide +kernel
theorem dX3_bound_7 : decode cX3_bound 7 = .ok (.iload_n 2, 1) := by decide +kernel
theorem dX3_bound_8 : decode cX3_bound 8 = .ok (.invokestatic 37, 3) := by decide +kernel
theorem dX3_bound_11 : decode cX3_bound 11 = .ok (.ifCond .eq 12, 3) := by decide +kernel
theorem dX3_bound_14 : decode cX3_bound 14 = .ok (.iload_n 3, 1) := by decide +kernel
theorem dX3_bound_15 : decode cX3_bound 15 = .ok (.ifCond .lt 8, 3) := by decide +kernel
theorem dX3_bound_18 : decode cX3_bound 18 = .ok (.iload_n 3, 1) := by decide +kernel
theorem dX3_bound_19 : decode cX3_bound 19 = .ok (.iconst 1, 1) := by decide +kernel
theorem dX3_bound_20 : decode cX3_bound 20 = .ok (.if_icmp .le 5, 3) := by decide +kernel
theorem dX3_bound_23 : decode cX3_bound 23 = .ok (.iconst (-1), 1) := by decide +kernel
theorem dX3_bound_24 : decode cX3_bound 24 = .ok (.ireturn, 1) := by decide +kernel
theorem dX3_bound_25 : decode cX3_bound 25 = .ok (.iload_n 3, 1) := by decide +kernel
theorem dX3_bound_26 : decode cX3_bound 26 = .ok (.ifCond .ne 20, 3) := by decide +kernel
theorem dX3_bound_29 : decode cX3_bound 29 = .ok (.aload_n 0, 1) := by decide +kernel
theorem dX3_bound_30 : decode cX3_bound 30 = .ok (.getfield 26, 3) := by decide +kernel
theorem dX3_bound_33 : decode cX3_bound 33 = .ok (.aload_n 0, 1) := by decide +kernel
theorem dX3_bound_34 : decode cX3_bound 34 = .ok (.getfield 10, 3) := by decide +kernel
theorem dX3_bound_37 : decode cX3_bound 37 = .ok (.iload_n 1, 1) := by decide +kernel
theorem dX3_bound_38 : decode cX3_bound 38 = .ok (.iload_n 2, 1) := by decide +kernel
theorem dX3_bound_39 : decode cX3_bound 39 = .ok (.iconst (-1), 1) := by decide +kernel
theorem dX3_bound_40 : decode cX3_bound 40 = .ok (.invokevirtual 165, 3) := by decide +kernel
theorem dX3_bound_43 : decode cX3_bound 43 = .ok (.goto 16, 3) := by decide +kernel
theorem dX3_bound_46 : decode cX3_bound 46 = .ok (.aload_n 0, 1) := by decide +kernel
theorem dX3_bound_47 : decode cX3_bound 47 = .ok (.getfield 26, 3) := by decide +kernel
theorem dX3_bound_50 : decode cX3_bound 50 = .ok (.aload_n 0, 1) := by decide +kernel
theorem dX3_bound_51 : decode cX3_bound 51 = .ok (.getfield 10, 3) := by decide +kernel
theorem dX3_bound_54 : decode cX3_bound 54 = .ok (.iload_n 1, 1) := by decide +kernel
theorem dX3_bound_55 : decode cX3_bound 55 = .ok (.iload_n 2, 1) := by decide +kernel
theorem dX3_bound_56 : decode cX3_bound 56 = .ok (.invokevirtual 169, 3) := by decide +kernel
theorem dX3_bound_59 : decode cX3_bound 59 = .ok (.istore 4, 2) := by decide +kernel
theorem dX3_bound_61 : decode cX3_bound 61 = .ok (.iload 4, 2) := by decide +kernel
theorem dX3_bound_63 : decode cX3_bound 63 = .ok (.ldc 173, 2) := by decide +kernel
theorem dX3_bound_65 : decode cX3_bound 65 = .ok (.if_icmp .ne 8, 3) := by decide +kernel
theorem dX3_bound_68 : decode cX3_bound 68 = .ok (.bipush (-4), 2) := by decide +kernel
theorem dX3_bound_70 : decode cX3_bound 70 = .ok (.goto 9, 3) := by decide +kernel
theorem dX3_bound_73 : decode cX3_bound 73 = .ok (.iload 4, 2) := by decide +kernel
theorem dX3_bound_75 : decode cX3_bound 75 = .ok (.sipush 1000, 3) := by decide +kernel
theorem dX3_bound_78 : decode cX3_bound 78 = .ok (.iadd, 1) := by decide +kernel
theorem dX3_bound_79 : decode cX3_bound 79 = .ok (.ireturn, 1) := by decide +kernel
theorem dX3_whyNot_0 : decode cX3_whyNot 0 = .ok (.iload_n 1, 1) := by decide +kernel
theorem dX3_whyNot_1 : decode cX3_whyNot 1 = .ok (.iload_n 2, 1) := by decide +kernel
theorem dX3_whyNot_2 : decode cX3_whyNot 2 = .ok (.iload_n 3, 1) := by decide +kernel
theorem dX3_whyNot_3 : decode cX3_whyNot 3 = .ok (.invokestatic 174, 3) := by decide +kernel
theorem dX3_whyNot_6 : decode cX3_whyNot 6 = .ok (.ifCond .eq 13, 3) := by decide +kernel
theorem dX3_whyNot_9 : decode cX3_whyNot 9 = .ok (.aload_n 0, 1) := by decide +kernel
theorem dX3_whyNot_10 : decode cX3_whyNot 10 = .ok (.iload_n 1, 1) := by decide +kernel
theorem dX3_whyNot_11 : decode cX3_whyNot 11 = .ok (.iload_n 2, 1) := by decide +kernel
theorem dX3_whyNot_12 : decode cX3_whyNot 12 = .ok (.iload_n 3, 1) := by decide +kernel
theorem dX3_whyNot_13 : decode cX3_whyNot 13 = .ok (.invokevirtual 178, 3) := by decide +kernel
theorem dX3_whyNot_16 : decode cX3_whyNot 16 = .ok (.goto 4, 3) := by decide +kernel
theorem dX3_whyNot_19 : decode cX3_whyNot 19 = .ok (.iconst (-1), 1) := by decide +kernel
theorem dX3_whyNot_20 : decode cX3_whyNot 20 = .ok (.ireturn, 1) := by decide +kernel
theorem dX3_clipping_0 : decode cX3_clipping 0 = .ok (.iload_n 1, 1) := by decide +kernel
theorem dX3_clipping_1 : decode cX3_clipping 1 = .ok (.ifCond .lt 8, 3) := by decide +kernel
theorem dX3_clipping_4 : decode cX3_clipping 4 = .ok (.iload_n 1, 1) := by decide +kernel
theorem dX3_clipping_5 : decode cX3_clipping 5 = .ok (.iconst 1, 1) := by decide +kernel
theorem dX3_clipping_6 : decode cX3_clipping 6 = .ok (.if_icmp .le 5, 3) := by decide +kernel
theorem dX3_clipping_9 : decode cX3_clipping 9 = .ok (.iconst (-1), 1) := by decide +kernel
theorem dX3_clipping_10 : decode cX3_clipping 10 = .ok (.ireturn, 1) := by decide +kernel
theorem dX3_clipping_11 : decode cX3_clipping 11 = .ok (.iload_n 1, 1) := by decide +kernel
theorem dX3_clipping_12 : decode cX3_clipping 12 = .ok (.ifCond .ne 17, 3) := by decide +kernel
theorem dX3_clipping_15 : decode cX3_clipping 15 = .ok (.aload_n 0, 1) := by decide +kernel
theorem dX3_clipping_16 : decode cX3_clipping 16 = .ok (.getfield 26, 3) := by decide +kernel
theorem dX3_clipping_19 : decode cX3_clipping 19 = .ok (.aload_n 0, 1) := by decide +kernel
theorem dX3_clipping_20 : decode cX3_clipping 20 = .ok (.getfield 10, 3) := by decide +kernel
theorem dX3_clipping_23 : decode cX3_clipping 23 = .ok (.invokevirtual 69, 3) := by decide +kernel
theorem dX3_clipping_26 : decode cX3_clipping 26 = .ok (.goto 14, 3) := by decide +kernel
theorem dX3_clipping_29 : decode cX3_clipping 29 = .ok (.aload_n 0, 1) := by decide +kernel
theorem dX3_clipping_30 : decode cX3_clipping 30 = .ok (.getfield 26, 3) := by decide +kernel
theorem dX3_clipping_33 : decode cX3_clipping 33 = .ok (.aload_n 0, 1) := by decide +kernel
theorem dX3_clipping_34 : decode cX3_clipping 34 = .ok (.getfield 10, 3) := by decide +kernel
theorem dX3_clipping_37 : decode cX3_clipping 37 = .ok (.invokevirtual 181, 3) := by decide +kernel
theorem dX3_clipping_40 : decode cX3_clipping 40 = .ok (.istore_n 2, 1) := by decide +kernel
theorem dX3_clipping_41 : decode cX3_clipping 41 = .ok (.iload_n 2, 1) := by decide +kernel
theorem dX3_clipping_42 : decode cX3_clipping 42 = .ok (.ifCond .eq 27, 3) := by decide +kernel
theorem dX3_clipping_45 : decode cX3_clipping 45 = .ok (.aload_n 0, 1) := by decide +kernel
theorem dX3_clipping_46 : decode cX3_clipping 46 = .ok (.getfield 10, 3) := by decide +kernel
theorem dX3_clipping_49 : decode cX3_clipping 49 = .ok (.getfield 44, 3) := by decide +kernel
theorem dX3_clipping_52 : decode cX3_clipping 52 = .ok (.invokestatic 184, 3) := by decide +kernel
theorem dX3_clipping_55 : decode cX3_clipping 55 = .ok (.aload_n 0, 1) := by decide +kernel
theorem dX3_clipping_56 : decode cX3_clipping 56 = .ok (.getfield 26, 3) := by decide +kernel
theorem dX3_clipping_59 : decode cX3_clipping 59 = .ok (.getfield 77, 3) := by decide +kernel
theorem dX3_clipping_62 : decode cX3_clipping 62 = .ok (.invokestatic 184, 3) := by decide +kernel
theorem dX3_clipping_65 : decode cX3_clipping 65 = .ok (.isub, 1) := by decide +kernel
theorem dX3_clipping_66 : decode cX3_clipping 66 = .ok (.goto 5, 3) := by decide +kernel
theorem dX3_clipping_69 : decode cX3_clipping 69 = .ok (.bipush (-4), 2) := by decide +kernel
theorem dX3_clipping_71 : decode cX3_clipping 71 = .ok (.ireturn, 1) := by decide +kernel
theorem dX3_count_0 : decode cX3_count 0 = .ok (.iload_n 1, 1) := by decide +kernel
theorem dX3_count_1 : decode cX3_count 1 = .ok (.tableswitch 177 0 12 #[67, 75, 83, 92, 102, 113, 121, 129, 137, 145, 153, 164, 172], 67) := by decide +kernel
theorem dX3_count_68 : decode cX3_count 68 = .ok (.aload_n 0, 1) := by decide +kernel
theorem dX3_count_69 : decode cX3_count 69 = .ok (.getfield 10, 3) := by decide +kernel
theorem dX3_count_72 : decode cX3_count 72 = .ok (.getfield 54, 3) := by decide +kernel
theorem dX3_count_75 : decode cX3_count 75 = .ok (.ireturn, 1) := by decide +kernel
theorem dX3_count_76 : decode cX3_count 76 = .ok (.aload_n 0, 1) := by decide +kernel
theorem dX3_count_77 : decode cX3_count 77 = .ok (.getfield 10, 3) := by decide +kernel
theorem dX3_count_80 : decode cX3_count 80 = .ok (.getfield 101, 3) := by decide +kernel
theorem dX3_count_83 : decode cX3_count 83 = .ok (.ireturn, 1) := by decide +kernel
theorem dX3_count_84 : decode cX3_count 84 = .ok (.aload_n 0, 1) := by decide +kernel
theorem dX3_count_85 : decode cX3_count 85 = .ok (.getfield 10, 3) := by decide +kernel
theorem dX3_count_88 : decode cX3_count 88 = .ok (.iconst (-1), 1) := by decide +kernel
theorem dX3_count_89 : decode cX3_count 89 = .ok (.invokevirtual 144, 3) := by decide +kernel
theorem dX3_count_92 : decode cX3_count 92 = .ok (.ireturn, 1) := by decide +kernel
theorem dX3_count_93 : decode cX3_count 93 = .ok (.aload_n 0, 1) := by decide +kernel
theorem dX3_count_94 : decode cX3_count 94 = .ok (.getfield 10, 3) := by decide +kernel
theorem dX3_count_97 : decode cX3_count 97 = .ok (.iconst (-1), 1) := by decide +kernel
theorem dX3_count_98 : decode cX3_count 98 = .ok (.iconst 0, 1) := by decide +kernel
theorem dX3_count_99 : decode cX3_count 99 = .ok (.invokevirtual 83, 3) := by decide +kernel
theorem dX3_count_102 : decode cX3_count 102 = .ok (.ireturn, 1) := by decide +kernel
theorem dX3_count_103 : decode cX3_count 103 = .ok (.aload_n 0, 1) := by decide +kernel
theorem dX3_count_104 : decode cX3_count 104 = .ok (.getfield 10, 3) := by decide +kernel
theorem dX3_count_107 : decode cX3_count 107 = .ok (.getfield 44, 3) := by decide +kernel
theorem dX3_count_110 : decode cX3_count 110 = .ok (.invokestatic 184, 3) := by decide +kernel
theorem dX3_count_113 : decode cX3_count 113 = .ok (.ireturn, 1) := by decide +kernel
theorem dX3_count_114 : decode cX3_count 114 = .ok (.aload_n 0, 1) := by decide +kernel
theorem dX3_count_115 : decode cX3_count 115 = .ok (.getfield 10, 3) := by decide +kernel
theorem dX3_count_118 : decode cX3_count 118 = .ok (.invokevirtual 188, 3) := by decide +kernel
theorem dX3_count_121 : decode cX3_count 121 = .ok (.ireturn, 1) := by decide +kernel
theorem dX3_count_122 : decode cX3_count 122 = .ok (.aload_n 0, 1) := by decide +kernel
theorem dX3_count_123 : decode cX3_count 123 = .ok (.getfield 10, 3) := by decide +kernel
theorem dX3_count_126 : decode cX3_count 126 = .ok (.getfield 107, 3) := by decide +kernel
theorem dX3_count_129 : decode cX3_count 129 = .ok (.ireturn, 1) := by decide +kernel
theorem dX3_count_130 : decode cX3_count 130 = .ok (.aload_n 0, 1) := by decide +kernel
theorem dX3_count_131 : decode cX3_count 131 = .ok (.getfield 10, 3) := by decide +kernel
theorem dX3_count_134 : decode cX3_count 134 = .ok (.getfield 191, 3) := by decide +kernel
theorem dX3_count_137 : decode cX3_count 137 = .ok (.ireturn, 1) := by decide +kernel
theorem dX3_count_138 : decode cX3_count 138 = .ok (.aload_n 0, 1) := by decide +kernel
theorem dX3_count_139 : decode cX3_count 139 = .ok (.getfield 10, 3) := by decide +kernel
theorem dX3_count_142 : decode cX3_count 142 = .ok (.getfield 194, 3) := by decide +kernel
theorem dX3_count_145 : decode cX3_count 145 = .ok (.ireturn, 1) := by decide +kernel
theorem dX3_count_146 : decode cX3_count 146 = .ok (.aload_n 0, 1) := by decide +kernel
theorem dX3_count_147 : decode cX3_count 147 = .ok (.getfield 10, 3) := by decide +kernel
theorem dX3_count_150 : decode cX3_count 150 = .ok (.getfield 197, 3) := by decide +kernel
theorem dX3_count_153 : decode cX3_count 153 = .ok (.ireturn, 1) := by decide +kernel
theorem dX3_count_154 : decode cX3_count 154 = .ok (.aload_n 0, 1) := by decide +kernel
theorem dX3_count_155 : decode cX3_count 155 = .ok (.getfield 10, 3) := by decide +kernel
theorem dX3_count_158 : decode cX3_count 158 = .ok (.getfield 147, 3) := by decide +kernel
theorem dX3_count_161 : decode cX3_count 161 = .ok (.invokestatic 184, 3) := by decide +kernel
theorem dX3_count_164 : decode cX3_count 164 = .ok (.ireturn, 1) := by decide +kernel
theorem dX3_count_165 : decode cX3_count 165 = .ok (.aload_n 0, 1) := by decide +kernel
theorem dX3_count_166 : decode cX3_count 166 = .ok (.getfield 33, 3) := by decide +kernel
theorem dX3_count_169 : decode cX3_count 169 = .ok (.getfield 116, 3) := by decide +kernel
theorem dX3_count_172 : decode cX3_count 172 = .ok (.ireturn, 1) := by decide +kernel
theorem dX3_count_173 : decode cX3_count 173 = .ok (.aload_n 0, 1) := by decide +kernel
theorem dX3_count_174 : decode cX3_count 174 = .ok (.getfield 200, 3) := by decide +kernel
theorem dX3_count_177 : decode cX3_count 177 = .ok (.ireturn, 1) := by decide +kernel
theorem dX3_count_178 : decode cX3_count 178 = .ok (.iconst (-1), 1) := by decide +kernel
theorem dX3_count_179 : decode cX3_count 179 = .ok (.ireturn, 1) := by decide +kernel
theorem dX3_peace_0 : decode cX3_peace 0 = .ok (.aload_n 0, 1) := by decide +kernel
theorem dX3_peace_1 : decode cX3_peace 1 = .ok (.getfield 10, 3) := by decide +kernel
theorem dX3_peace_4 : decode cX3_peace 4 = .ok (.iconst (-1), 1) := by decide +kernel
theorem dX3_peace_5 : decode cX3_peace 5 = .ok (.invokevirtual 144, 3) := by decide +kernel
theorem dX3_peace_8 : decode cX3_peace 8 = .ok (.istore_n 1, 1) := by decide +kernel
theorem dX3_peace_9 : decode cX3_peace 9 = .ok (.iload_n 1, 1) := by decide +kernel
theorem dX3_peace_10 : decode cX3_peace 10 = .ok (.ifCond .gt 5, 3) := by decide +kernel
theorem dX3_peace_13 : decode cX3_peace 13 = .ok (.dconst 1, 1) := by decide +kernel
theorem dX3_peace_14 : decode cX3_peace 14 = .ok (.dreturn, 1) := by decide +kernel
theorem dX3_peace_15 : decode cX3_peace 15 = .ok (.iload_n 1, 1) := by decide +kernel
theorem dX3_peace_16 : decode cX3_peace 16 = .ok (.aload_n 0, 1) := by decide +kernel
theorem dX3_peace_17 : decode cX3_peace 17 = .ok (.getfield 10, 3) := by decide +kernel
theorem dX3_peace_20 : decode cX3_peace 20 = .ok (.iconst (-1), 1) := by decide +kernel
theorem dX3_peace_21 : decode cX3_peace 21 = .ok (.iconst 0, 1) := by decide +kernel
theorem dX3_peace_22 : decode cX3_peace 22 = .ok (.invokevirtual 83, 3) := by decide +kernel
theorem dX3_peace_25 : decode cX3_peace 25 = .ok (.isub, 1) := by decide +kernel
theorem dX3_peace_26 : decode cX3_peace 26 = .ok (.i2d, 1) := by decide +kernel
theorem dX3_peace_27 : decode cX3_peace 27 = .ok (.iload_n 1, 1) := by decide +kernel
theorem dX3_peace_28 : decode cX3_peace 28 = .ok (.i2d, 1) := by decide +kernel
theorem dX3_peace_29 : decode cX3_peace 29 = .ok (.ddiv, 1) := by decide +kernel
theorem dX3_peace_30 : decode cX3_peace 30 = .ok (.dreturn, 1) := by decide +kernel
theorem dX3_ifDays_0 : decode cX3_ifDays 0 = .ok (.iload_n 1, 1) := by decide +kernel
theorem dX3_ifDays_1 : decode cX3_ifDays 1 = .ok (.iconst 1, 1) := by decide +kernel
theorem dX3_ifDays_2 : decode cX3_ifDays 2 = .ok (.if_icmp .lt 9, 3) := by decide +kernel
theorem dX3_ifDays_5 : decode cX3_ifDays 5 = .ok (.iload_n 1, 1) := by decide +kernel
theorem dX3_ifDays_6 : decode cX3_ifDays 6 = .ok (.bipush 30, 2) := by decide +kernel
theorem dX3_ifDays_8 : decode cX3_ifDays 8 = .ok (.if_icmp .le 5, 3) := by decide +kernel
theorem dX3_ifDays_11 : decode cX3_ifDays 11 = .ok (.iconst (-1), 1) := by decide +kernel
theorem dX3_ifDays_12 : decode cX3_ifDays 12 = .ok (.ireturn, 1) := by decide +kernel
theorem dX3_ifDays_13 : decode cX3_ifDays 13 = .ok (.iload_n 2, 1) := by decide +kernel
theorem dX3_ifDays_14 : decode cX3_ifDays 14 = .ok (.lookupswitch 45 #[(0, 26), (1, 36)], 26) := by decide +kernel
theorem dX3_ifDays_40 : decode cX3_ifDays 40 = .ok (.aload_n 0, 1) := by decide +kernel
theorem dX3_ifDays_41 : decode cX3_ifDays 41 = .ok (.getfield 10, 3) := by decide +kernel
theorem dX3_ifDays_44 : decode cX3_ifDays 44 = .ok (.iconst (-1), 1) := by decide +kernel
theorem dX3_ifDays_45 : decode cX3_ifDays 45 = .ok (.iload_n 1, 1) := by decide +kernel
theorem dX3_ifDays_46 : decode cX3_ifDays 46 = .ok (.invokevirtual 83, 3) := by decide +kernel
theorem dX3_ifDays_49 : decode cX3_ifDays 49 = .ok (.ireturn, 1) := by decide +kernel
theorem dX3_ifDays_50 : decode cX3_ifDays 50 = .ok (.aload_n 0, 1) := by decide +kernel
theorem dX3_ifDays_51 : decode cX3_ifDays 51 = .ok (.getfield 10, 3) := by decide +kernel
theorem dX3_ifDays_54 : decode cX3_ifDays 54 = .ok (.iload_n 1, 1) := by decide +kernel
theorem dX3_ifDays_55 : decode cX3_ifDays 55 = .ok (.invokevirtual 203, 3) := by decide +kernel
theorem dX3_ifDays_58 : decode cX3_ifDays 58 = .ok (.ireturn, 1) := by decide +kernel
theorem dX3_ifDays_59 : decode cX3_ifDays 59 = .ok (.iconst (-1), 1) := by decide +kernel
theorem dX3_ifDays_60 : decode cX3_ifDays 60 = .ok (.ireturn, 1) := by decide +kernel
theorem dX3_breaksIn_0 : decode cX3_breaksIn 0 = .ok (.iconst 0, 1) := by decide +kernel
theorem dX3_breaksIn_1 : decode cX3_breaksIn 1 = .ok (.istore_n 1, 1) := by decide +kernel
theorem dX3_breaksIn_2 : decode cX3_breaksIn 2 = .ok (.iload_n 1, 1) := by decide +kernel
theorem dX3_breaksIn_3 : decode cX3_breaksIn 3 = .ok (.bipush 60, 2) := by decide +kernel
theorem dX3_breaksIn_5 : decode cX3_breaksIn 5 = .ok (.if_icmp .gt 23, 3) := by decide +kernel
theorem dX3_breaksIn_8 : decode cX3_breaksIn 8 = .ok (.aload_n 0, 1) := by decide +kernel
theorem dX3_breaksIn_9 : decode cX3_breaksIn 9 = .ok (.getfield 10, 3) := by decide +kernel
theorem dX3_breaksIn_12 : decode cX3_breaksIn 12 = .ok (.iconst (-1), 1) := by decide +kernel
theorem dX3_breaksIn_13 : decode cX3_breaksIn 13 = .ok (.iload_n 1, 1) := by decide +kernel
theorem dX3_breaksIn_14 : decode cX3_breaksIn 14 = .ok (.invokevirtual 83, 3) := by decide +kernel
theorem dX3_breaksIn_17 : decode cX3_breaksIn 17 = .ok (.ifCond .le 5, 3) := by decide +kernel
theorem dX3_breaksIn_20 : decode cX3_breaksIn 20 = .ok (.iload_n 1, 1) := by decide +kernel
theorem dX3_breaksIn_21 : decode cX3_breaksIn 21 = .ok (.ireturn, 1) := by decide +kernel
theorem dX3_breaksIn_22 : decode cX3_breaksIn 22 = .ok (.iinc 1 1, 3) := by decide +kernel
theorem dX3_breaksIn_25 : decode cX3_breaksIn 25 = .ok (.goto (-23), 3) := by decide +kernel
theorem dX3_breaksIn_28 : decode cX3_breaksIn 28 = .ok (.bipush (-4), 2) := by decide +kernel
theorem dX3_breaksIn_30 : decode cX3_breaksIn 30 = .ok (.ireturn, 1) := by decide +kernel
theorem dX3_tightest_0 : decode cX3_tightest 0 = .ok (.iload_n 1, 1) := by decide +kernel
theorem dX3_tightest_1 : decode cX3_tightest 1 = .ok (.iload_n 2, 1) := by decide +kernel
theorem dX3_tightest_2 : decode cX3_tightest 2 = .ok (.bipush 60, 2) := by decide +kernel
theorem dX3_tightest_4 : decode cX3_tightest 4 = .ok (.invokestatic 174, 3) := by decide +kernel
theorem dX3_tightest_7 : decode cX3_tightest 7 = .ok (.ifCond .ne 5, 3) := by decide +kernel
theorem dX3_tightest_10 : decode cX3_tightest 10 = .ok (.iconst (-1), 1) := by decide +kernel
theorem dX3_tightest_11 : decode cX3_tightest 11 = .ok (.ireturn, 1) := by decide +kernel
theorem dX3_tightest_12 : decode cX3_tightest 12 = .ok (.aload_n 0, 1) := by decide +kernel
theorem dX3_tightest_13 : decode cX3_tightest 13 = .ok (.getfield 26, 3) := by decide +kernel
theorem dX3_tightest_16 : decode cX3_tightest 16 = .ok (.aload_n 0, 1) := by decide +kernel
theorem dX3_tightest_17 : decode cX3_tightest 17 = .ok (.getfield 10, 3) := by decide +kernel
theorem dX3_tightest_20 : decode cX3_tightest 20 = .ok (.iload_n 1, 1) := by decide +kernel
theorem dX3_tightest_21 : decode cX3_tightest 21 = .ok (.iload_n 2, 1) := by decide +kernel
theorem dX3_tightest_22 : decode cX3_tightest 22 = .ok (.bipush 60, 2) := by decide +kernel
theorem dX3_tightest_24 : decode cX3_tightest 24 = .ok (.invokevirtual 206, 3) := by decide +kernel
theorem dX3_tightest_27 : decode cX3_tightest 27 = .ok (.ifCond .ne 6, 3) := by decide +kernel
theorem dX3_tightest_30 : decode cX3_tightest 30 = .ok (.bipush (-4), 2) := by decide +kernel
theorem dX3_tightest_32 : decode cX3_tightest 32 = .ok (.ireturn, 1) := by decide +kernel
theorem dX3_tightest_33 : decode cX3_tightest 33 = .ok (.bipush 60, 2) := by decide +kernel
theorem dX3_tightest_35 : decode cX3_tightest 35 = .ok (.istore_n 3, 1) := by decide +kernel
theorem dX3_tightest_36 : decode cX3_tightest 36 = .ok (.bipush 64, 2) := by decide +kernel
theorem dX3_tightest_38 : decode cX3_tightest 38 = .ok (.istore 4, 2) := by decide +kernel
theorem dX3_tightest_40 : decode cX3_tightest 40 = .ok (.iload 4, 2) := by decide +kernel
theorem dX3_tightest_42 : decode cX3_tightest 42 = .ok (.ifCond .le 46, 3) := by decide +kernel
theorem dX3_tightest_45 : decode cX3_tightest 45 = .ok (.iload_n 3, 1) := by decide +kernel
theorem dX3_tightest_46 : decode cX3_tightest 46 = .ok (.iload 4, 2) := by decide +kernel
theorem dX3_tightest_48 : decode cX3_tightest 48 = .ok (.isub, 1) := by decide +kernel
theorem dX3_tightest_49 : decode cX3_tightest 49 = .ok (.istore 5, 2) := by decide +kernel
theorem dX3_tightest_51 : decode cX3_tightest 51 = .ok (.iload 5, 2) := by decide +kernel
theorem dX3_tightest_53 : decode cX3_tightest 53 = .ok (.bipush (-30), 2) := by decide +kernel
theorem dX3_tightest_55 : decode cX3_tightest 55 = .ok (.if_icmp .lt 24, 3) := by decide +kernel
theorem dX3_tightest_58 : decode cX3_tightest 58 = .ok (.aload_n 0, 1) := by decide +kernel
theorem dX3_tightest_59 : decode cX3_tightest 59 = .ok (.getfield 26, 3) := by decide +kernel
theorem dX3_tightest_62 : decode cX3_tightest 62 = .ok (.aload_n 0, 1) := by decide +kernel
theorem dX3_tightest_63 : decode cX3_tightest 63 = .ok (.getfield 10, 3) := by decide +kernel
theorem dX3_tightest_66 : decode cX3_tightest 66 = .ok (.iload_n 1, 1) := by decide +kernel
theorem dX3_tightest_67 : decode cX3_tightest 67 = .ok (.iload_n 2, 1) := by decide +kernel
theorem dX3_tightest_68 : decode cX3_tightest 68 = .ok (.iload 5, 2) := by decide +kernel
theorem dX3_tightest_70 : decode cX3_tightest 70 = .ok (.invokevirtual 206, 3) := by decide +kernel
theorem dX3_tightest_73 : decode cX3_tightest 73 = .ok (.ifCond .eq 6, 3) := by decide +kernel
theorem dX3_tightest_76 : decode cX3_tightest 76 = .ok (.iload 5, 2) := by decide +kernel
theorem dX3_tightest_78 : decode cX3_tightest 78 = .ok (.istore_n 3, 1) := by decide +kernel
theorem dX3_tightest_79 : decode cX3_tightest 79 = .ok (.iload 4, 2) := by decide +kernel
theorem dX3_tightest_81 : decode cX3_tightest 81 = .ok (.iconst 2, 1) := by decide +kernel
theorem dX3_tightest_82 : decode cX3_tightest 82 = .ok (.idiv, 1) := by decide +kernel
theorem dX3_tightest_83 : decode cX3_tightest 83 = .ok (.istore 4, 2) := by decide +kernel
theorem dX3_tightest_85 : decode cX3_tightest 85 = .ok (.goto (-45), 3) := by decide +kernel
theorem dX3_tightest_88 : decode cX3_tightest 88 = .ok (.iload_n 3, 1) := by decide +kernel
theorem dX3_tightest_89 : decode cX3_tightest 89 = .ok (.bipush 100, 2) := by decide +kernel
theorem dX3_tightest_91 : decode cX3_tightest 91 = .ok (.iadd, 1) := by decide +kernel
theorem dX3_tightest_92 : decode cX3_tightest 92 = .ok (.ireturn, 1) := by decide +kernel
theorem dX3_undo_0 : decode cX3_undo 0 = .ok (.aload_n 0, 1) := by decide +kernel
theorem dX3_undo_1 : decode cX3_undo 1 = .ok (.getfield 200, 3) := by decide +kernel
theorem dX3_undo_4 : decode cX3_undo 4 = .ok (.ifCond .gt 6, 3) := by decide +kernel
theorem dX3_undo_7 : decode cX3_undo 7 = .ok (.bipush (-2), 2) := by decide +kernel
theorem dX3_undo_9 : decode cX3_undo 9 = .ok (.ireturn, 1) := by decide +kernel
theorem dX3_undo_10 : decode cX3_undo 10 = .ok (.aload_n 0, 1) := by decide +kernel
theorem dX3_undo_11 : decode cX3_undo 11 = .ok (.dup, 1) := by decide +kernel
theorem dX3_undo_12 : decode cX3_undo 12 = .ok (.getfield 200, 3) := by decide +kernel
theorem dX3_undo_15 : decode cX3_undo 15 = .ok (.iconst 1, 1) := by decide +kernel
theorem dX3_undo_16 : decode cX3_undo 16 = .ok (.isub, 1) := by decide +kernel
theorem dX3_undo_17 : decode cX3_undo 17 = .ok (.putfield 200, 3) := by decide +kernel
theorem dX3_undo_20 : decode cX3_undo 20 = .ok (.aload_n 0, 1) := by decide +kernel
theorem dX3_undo_21 : decode cX3_undo 21 = .ok (.getfield 10, 3) := by decide +kernel
theorem dX3_undo_24 : decode cX3_undo 24 = .ok (.aload_n 0, 1) := by decide +kernel
theorem dX3_undo_25 : decode cX3_undo 25 = .ok (.getfield 19, 3) := by decide +kernel
theorem dX3_undo_28 : decode cX3_undo 28 = .ok (.aload_n 0, 1) := by decide +kernel
theorem dX3_undo_29 : decode cX3_undo 29 = .ok (.getfield 200, 3) := by decide +kernel
theorem dX3_undo_32 : decode cX3_undo 32 = .ok (.aaload, 1) := by decide +kernel
theorem dX3_undo_33 : decode cX3_undo 33 = .ok (.invokevirtual 210, 3) := by decide +kernel
theorem dX3_undo_36 : decode cX3_undo 36 = .ok (.aload_n 0, 1) := by decide +kernel
theorem dX3_undo_37 : decode cX3_undo 37 = .ok (.getfield 200, 3) := by decide +kernel
theorem dX3_undo_40 : decode cX3_undo 40 = .ok (.ireturn, 1) := by decide +kernel
theorem dX3_save_0 : decode cX3_save 0 = .ok (.aload_n 0, 1) := by decide +kernel
theorem dX3_save_1 : decode cX3_save 1 = .ok (.getfield 16, 3) := by decide +kernel
theorem dX3_save_4 : decode cX3_save 4 = .ok (.aload_n 0, 1) := by decide +kernel
theorem dX3_save_5 : decode cX3_save 5 = .ok (.getfield 10, 3) := by decide +kernel
theorem dX3_save_8 : decode cX3_save 8 = .ok (.invokevirtual 210, 3) := by decide +kernel
theorem dX3_save_11 : decode cX3_save 11 = .ok (.aload_n 0, 1) := by decide +kernel
theorem dX3_save_12 : decode cX3_save 12 = .ok (.iconst 1, 1) := by decide +kernel
theorem dX3_save_13 : decode cX3_save 13 = .ok (.putfield 214, 3) := by decide +kernel
theorem dX3_save_16 : decode cX3_save 16 = .ok (.aload_n 0, 1) := by decide +kernel
theorem dX3_save_17 : decode cX3_save 17 = .ok (.getfield 10, 3) := by decide +kernel
theorem dX3_save_20 : decode cX3_save 20 = .ok (.getfield 101, 3) := by decide +kernel
theorem dX3_save_23 : decode cX3_save 23 = .ok (.ireturn, 1) := by decide +kernel
theorem dX3_restore_0 : decode cX3_restore 0 = .ok (.aload_n 0, 1) := by decide +kernel
theorem dX3_restore_1 : decode cX3_restore 1 = .ok (.getfield 214, 3) := by decide +kernel
theorem dX3_restore_4 : decode cX3_restore 4 = .ok (.ifCond .ne 6, 3) := by decide +kernel
theorem dX3_restore_7 : decode cX3_restore 7 = .ok (.bipush (-2), 2) := by decide +kernel
theorem dX3_restore_9 : decode cX3_restore 9 = .ok (.ireturn, 1) := by decide +kernel
theorem dX3_restore_10 : decode cX3_restore 10 = .ok (.aload_n 0, 1) := by decide +kernel
theorem dX3_restore_11 : decode cX3_restore 11 = .ok (.invokevirtual 41, 3) := by decide +kernel
theorem dX3_restore_14 : decode cX3_restore 14 = .ok (.aload_n 0, 1) := by decide +kernel
theorem dX3_restore_15 : decode cX3_restore 15 = .ok (.getfield 10, 3) := by decide +kernel
theorem dX3_restore_18 : decode cX3_restore 18 = .ok (.aload_n 0, 1) := by decide +kernel
theorem dX3_restore_19 : decode cX3_restore 19 = .ok (.getfield 16, 3) := by decide +kernel
theorem dX3_restore_22 : decode cX3_restore 22 = .ok (.invokevirtual 210, 3) := by decide +kernel
theorem dX3_restore_25 : decode cX3_restore 25 = .ok (.aload_n 0, 1) := by decide +kernel
theorem dX3_restore_26 : decode cX3_restore 26 = .ok (.getfield 10, 3) := by decide +kernel
theorem dX3_restore_29 : decode cX3_restore 29 = .ok (.getfield 101, 3) := by decide +kernel
theorem dX3_restore_32 : decode cX3_restore 32 = .ok (.ireturn, 1) := by decide +kernel
theorem dX3_isHedge_0 : decode cX3_isHedge 0 = .ok (.iload_n 0, 1) := by decide +kernel
theorem dX3_isHedge_1 : decode cX3_isHedge 1 = .ok (.ifCond .lt 13, 3) := by decide +kernel
theorem dX3_isHedge_4 : decode cX3_isHedge 4 = .ok (.iload_n 0, 1) := by decide +kernel
theorem dX3_isHedge_5 : decode cX3_isHedge 5 = .ok (.bipush 8, 2) := by decide +kernel
theorem dX3_isHedge_7 : decode cX3_isHedge 7 = .ok (.if_icmp .ge 7, 3) := by decide +kernel
theorem dX3_isHedge_10 : decode cX3_isHedge 10 = .ok (.iconst 1, 1) := by decide +kernel
theorem dX3_isHedge_11 : decode cX3_isHedge 11 = .ok (.goto 4, 3) := by decide +kernel
theorem dX3_isHedge_14 : decode cX3_isHedge 14 = .ok (.iconst 0, 1) := by decide +kernel
theorem dX3_isHedge_15 : decode cX3_isHedge 15 = .ok (.ireturn, 1) := by decide +kernel
theorem dX3_isTreaty_0 : decode cX3_isTreaty 0 = .ok (.iload_n 1, 1) := by decide +kernel
theorem dX3_isTreaty_1 : decode cX3_isTreaty 1 = .ok (.ifCond .lt 18, 3) := by decide +kernel
theorem dX3_isTreaty_4 : decode cX3_isTreaty 4 = .ok (.iload_n 1, 1) := by decide +kernel
theorem dX3_isTreaty_5 : decode cX3_isTreaty 5 = .ok (.aload_n 0, 1) := by decide +kernel
theorem dX3_isTreaty_6 : decode cX3_isTreaty 6 = .ok (.getfield 10, 3) := by decide +kernel
theorem dX3_isTreaty_9 : decode cX3_isTreaty 9 = .ok (.getfield 101, 3) := by decide +kernel
theorem dX3_isTreaty_12 : decode cX3_isTreaty 12 = .ok (.if_icmp .ge 7, 3) := by decide +kernel
theorem dX3_isTreaty_15 : decode cX3_isTreaty 15 = .ok (.iconst 1, 1) := by decide +kernel
theorem dX3_isTreaty_16 : decode cX3_isTreaty 16 = .ok (.goto 4, 3) := by decide +kernel
theorem dX3_isTreaty_19 : decode cX3_isTreaty 19 = .ok (.iconst 0, 1) := by decide +kernel
theorem dX3_isTreaty_20 : decode cX3_isTreaty 20 = .ok (.ireturn, 1) := by decide +kernel
theorem dX3_isAgreement_0 : decode cX3_isAgreement 0 = .ok (.iload_n 0, 1) := by decide +kernel
theorem dX3_isAgreement_1 : decode cX3_isAgreement 1 = .ok (.invokestatic 37, 3) := by decide +kernel
theorem dX3_isAgreement_4 : decode cX3_isAgreement 4 = .ok (.ifCond .eq 31, 3) := by decide +kernel
theorem dX3_isAgreement_7 : decode cX3_isAgreement 7 = .ok (.iload_n 1, 1) := by decide +kernel
theorem dX3_isAgreement_8 : decode cX3_isAgreement 8 = .ok (.invokestatic 37, 3) := by decide +kernel
theorem dX3_isAgreement_11 : decode cX3_isAgreement 11 = .ok (.ifCond .eq 24, 3) := by decide +kernel
theorem dX3_isAgreement_14 : decode cX3_isAgreement 14 = .ok (.iload_n 0, 1) := by decide +kernel
theorem dX3_isAgreement_15 : decode cX3_isAgreement 15 = .ok (.iload_n 1, 1) := by decide +kernel
theorem dX3_isAgreement_16 : decode cX3_isAgreement 16 = .ok (.if_icmp .eq 19, 3) := by decide +kernel
theorem dX3_isAgreement_19 : decode cX3_isAgreement 19 = .ok (.iload_n 2, 1) := by decide +kernel
theorem dX3_isAgreement_20 : decode cX3_isAgreement 20 = .ok (.bipush (-30), 2) := by decide +kernel
theorem dX3_isAgreement_22 : decode cX3_isAgreement 22 = .ok (.if_icmp .lt 13, 3) := by decide +kernel
theorem dX3_isAgreement_25 : decode cX3_isAgreement 25 = .ok (.iload_n 2, 1) := by decide +kernel
theorem dX3_isAgreement_26 : decode cX3_isAgreement 26 = .ok (.bipush 60, 2) := by decide +kernel
theorem dX3_isAgreement_28 : decode cX3_isAgreement 28 = .ok (.if_icmp .gt 7, 3) := by decide +kernel
theorem dX3_isAgreement_31 : decode cX3_isAgreement 31 = .ok (.iconst 1, 1) := by decide +kernel
theorem dX3_isAgreement_32 : decode cX3_isAgreement 32 = .ok (.goto 4, 3) := by decide +kernel
theorem dX3_isAgreement_35 : decode cX3_isAgreement 35 = .ok (.iconst 0, 1) := by decide +kernel
theorem dX3_isAgreement_36 : decode cX3_isAgreement 36 = .ok (.ireturn, 1) := by decide +kernel
theorem dX3_sum_0 : decode cX3_sum 0 = .ok (.iconst 0, 1) := by decide +kernel
theorem dX3_sum_1 : decode cX3_sum 1 = .ok (.istore_n 1, 1) := by decide +kernel
theorem dX3_sum_2 : decode cX3_sum 2 = .ok (.aload_n 0, 1) := by decide +kernel
theorem dX3_sum_3 : decode cX3_sum 3 = .ok (.astore_n 2, 1) := by decide +kernel
theorem dX3_sum_4 : decode cX3_sum 4 = .ok (.aload_n 2, 1) := by decide +kernel
theorem dX3_sum_5 : decode cX3_sum 5 = .ok (.arraylength, 1) := by decide +kernel
theorem dX3_sum_6 : decode cX3_sum 6 = .ok (.istore_n 3, 1) := by decide +kernel
theorem dX3_sum_7 : decode cX3_sum 7 = .ok (.iconst 0, 1) := by decide +kernel
theorem dX3_sum_8 : decode cX3_sum 8 = .ok (.istore 4, 2) := by decide +kernel
theorem dX3_sum_10 : decode cX3_sum 10 = .ok (.iload 4, 2) := by decide +kernel
theorem dX3_sum_12 : decode cX3_sum 12 = .ok (.iload_n 3, 1) := by decide +kernel
theorem dX3_sum_13 : decode cX3_sum 13 = .ok (.if_icmp .ge 20, 3) := by decide +kernel
theorem dX3_sum_16 : decode cX3_sum 16 = .ok (.aload_n 2, 1) := by decide +kernel
theorem dX3_sum_17 : decode cX3_sum 17 = .ok (.iload 4, 2) := by decide +kernel
theorem dX3_sum_19 : decode cX3_sum 19 = .ok (.iaload, 1) := by decide +kernel
theorem dX3_sum_20 : decode cX3_sum 20 = .ok (.istore 5, 2) := by decide +kernel
theorem dX3_sum_22 : decode cX3_sum 22 = .ok (.iload_n 1, 1) := by decide +kernel
theorem dX3_sum_23 : decode cX3_sum 23 = .ok (.iload 5, 2) := by decide +kernel
theorem dX3_sum_25 : decode cX3_sum 25 = .ok (.iadd, 1) := by decide +kernel
theorem dX3_sum_26 : decode cX3_sum 26 = .ok (.istore_n 1, 1) := by decide +kernel
theorem dX3_sum_27 : decode cX3_sum 27 = .ok (.iinc 4 1, 3) := by decide +kernel
theorem dX3_sum_30 : decode cX3_sum 30 = .ok (.goto (-20), 3) := by decide +kernel
theorem dX3_sum_33 : decode cX3_sum 33 = .ok (.iload_n 1, 1) := by decide +kernel
theorem dX3_sum_34 : decode cX3_sum 34 = .ok (.ireturn, 1) := by decide +kernel
theorem dX3_remember_0 : decode cX3_remember 0 = .ok (.aload_n 0, 1) := by decide +kernel
theorem dX3_remember_1 : decode cX3_remember 1 = .ok (.getfield 200, 3) := by decide +kernel
theorem dX3_remember_4 : decode cX3_remember 4 = .ok (.iconst 4, 1) := by decide +kernel
theorem dX3_remember_5 : decode cX3_remember 5 = .ok (.if_icmp .lt 7, 3) := by decide +kernel
theorem dX3_remember_8 : decode cX3_remember 8 = .ok (.aload_n 0, 1) := by decide +kernel
theorem dX3_remember_9 : decode cX3_remember 9 = .ok (.invokevirtual 218, 3) := by decide +kernel
theorem dX3_remember_12 : decode cX3_remember 12 = .ok (.aload_n 0, 1) := by decide +kernel
theorem dX3_remember_13 : decode cX3_remember 13 = .ok (.getfield 19, 3) := by decide +kernel
theorem dX3_remember_16 : decode cX3_remember 16 = .ok (.aload_n 0, 1) := by decide +kernel
theorem dX3_remember_17 : decode cX3_remember 17 = .ok (.getfield 200, 3) := by decide +kernel
theorem dX3_remember_20 : decode cX3_remember 20 = .ok (.aaload, 1) := by decide +kernel
theorem dX3_remember_21 : decode cX3_remember 21 = .ok (.aload_n 0, 1) := by decide +kernel
theorem dX3_remember_22 : decode cX3_remember 22 = .ok (.getfield 10, 3) := by decide +kernel
theorem dX3_remember_25 : decode cX3_remember 25 = .ok (.invokevirtual 210, 3) := by decide +kernel
theorem dX3_remember_28 : decode cX3_remember 28 = .ok (.aload_n 0, 1) := by decide +kernel
theorem dX3_remember_29 : decode cX3_remember 29 = .ok (.dup, 1) := by decide +kernel
theorem dX3_remember_30 : decode cX3_remember 30 = .ok (.getfield 200, 3) := by decide +kernel
theorem dX3_remember_33 : decode cX3_remember 33 = .ok (.iconst 1, 1) := by decide +kernel
theorem dX3_remember_34 : decode cX3_remember 34 = .ok (.iadd, 1) := by decide +kernel
theorem dX3_remember_35 : decode cX3_remember 35 = .ok (.putfield 200, 3) := by decide +kernel
theorem dX3_remember_38 : decode cX3_remember 38 = .ok (.return_, 1) := by decide +kernel
theorem dX3_dropOldestState_0 : decode cX3_dropOldestState 0 = .ok (.aload_n 0, 1) := by decide +kernel
theorem dX3_dropOldestState_1 : decode cX3_dropOldestState 1 = .ok (.getfield 19, 3) := by decide +kernel
theorem dX3_dropOldestState_4 : decode cX3_dropOldestState 4 = .ok (.iconst 0, 1) := by decide +kernel
theorem dX3_dropOldestState_5 : decode cX3_dropOldestState 5 = .ok (.aaload, 1) := by decide +kernel
theorem dX3_dropOldestState_6 : decode cX3_dropOldestState 6 = .ok (.astore_n 1, 1) := by decide +kernel
theorem dX3_dropOldestState_7 : decode cX3_dropOldestState 7 = .ok (.iconst 1, 1) := by decide +kernel
theorem dX3_dropOldestState_8 : decode cX3_dropOldestState 8 = .ok (.istore_n 2, 1) := by decide +kernel
theorem dX3_dropOldestState_9 : decode cX3_dropOldestState 9 = .ok (.iload_n 2, 1) := by decide +kernel
theorem dX3_dropOldestState_10 : decode cX3_dropOldestState 10 = .ok (.iconst 4, 1) := by decide +kernel
theorem dX3_dropOldestState_11 : decode cX3_dropOldestState 11 = .ok (.if_icmp .ge 23, 3) := by decide +kernel
theorem dX3_dropOldestState_14 : decode cX3_dropOldestState 14 = .ok (.aload_n 0, 1) := by decide +kernel
theorem dX3_dropOldestState_15 : decode cX3_dropOldestState 15 = .ok (.getfield 19, 3) := by decide +kernel
theorem dX3_dropOldestState_18 : decode cX3_dropOldestState 18 = .ok (.iload_n 2, 1) := by decide +kernel
theorem dX3_dropOldestState_19 : decode cX3_dropOldestState 19 = .ok (.iconst 1, 1) := by decide +kernel
theorem dX3_dropOldestState_20 : decode cX3_dropOldestState 20 = .ok (.isub, 1) := by decide +kernel
theorem dX3_dropOldestState_21 : decode cX3_dropOldestState 21 = .ok (.aload_n 0, 1) := by decide +kernel
theorem dX3_dropOldestState_22 : decode cX3_dropOldestState 22 = .ok (.getfield 19, 3) := by decide +kernel
theorem dX3_dropOldestState_25 : decode cX3_dropOldestState 25 = .ok (.iload_n 2, 1) := by decide +kernel
theorem dX3_dropOldestState_26 : decode cX3_dropOldestState 26 = .ok (.aaload, 1) := by decide +kernel
theorem dX3_dropOldestState_27 : decode cX3_dropOldestState 27 = .ok (.aastore, 1) := by decide +kernel
theorem dX3_dropOldestState_28 : decode cX3_dropOldestState 28 = .ok (.iinc 2 1, 3) := by decide +kernel
theorem dX3_dropOldestState_31 : decode cX3_dropOldestState 31 = .ok (.goto (-22), 3) := by decide +kernel
theorem dX3_dropOldestState_34 : decode cX3_dropOldestState 34 = .ok (.aload_n 0, 1) := by decide +kernel
theorem dX3_dropOldestState_35 : decode cX3_dropOldestState 35 = .ok (.getfield 19, 3) := by decide +kernel
theorem dX3_dropOldestState_38 : decode cX3_dropOldestState 38 = .ok (.iconst 3, 1) := by decide +kernel
theorem dX3_dropOldestState_39 : decode cX3_dropOldestState 39 = .ok (.aload_n 1, 1) := by decide +kernel
theorem dX3_dropOldestState_40 : decode cX3_dropOldestState 40 = .ok (.aastore, 1) := by decide +kernel
theorem dX3_dropOldestState_41 : decode cX3_dropOldestState 41 = .ok (.aload_n 0, 1) := by decide +kernel
theorem dX3_dropOldestState_42 : decode cX3_dropOldestState 42 = .ok (.iconst 3, 1) := by decide +kernel
theorem dX3_dropOldestState_43 : decode cX3_dropOldestState 43 = .ok (.putfield 200, 3) := by decide +kernel
theorem dX3_dropOldestState_46 : decode cX3_dropOldestState 46 = .ok (.return_, 1) := by decide +kernel
theorem dX3_refuse_0 : decode cX3_refuse 0 = .ok (.aload_n 0, 1) := by decide +kernel
theorem dX3_refuse_1 : decode cX3_refuse 1 = .ok (.getfield 10, 3) := by decide +kernel
theorem dX3_refuse_4 : decode cX3_refuse 4 = .ok (.dup, 1) := by decide +kernel
theorem dX3_refuse_5 : decode cX3_refuse 5 = .ok (.getfield 194, 3) := by decide +kernel
theorem dX3_refuse_8 : decode cX3_refuse 8 = .ok (.iconst 1, 1) := by decide +kernel
theorem dX3_refuse_9 : decode cX3_refuse 9 = .ok (.iadd, 1) := by decide +kernel
theorem dX3_refuse_10 : decode cX3_refuse 10 = .ok (.putfield 194, 3) := by decide +kernel
theorem dX3_refuse_13 : decode cX3_refuse 13 = .ok (.iload_n 1, 1) := by decide +kernel
theorem dX3_refuse_14 : decode cX3_refuse 14 = .ok (.ireturn, 1) := by decide +kernel
theorem dX3_isNestInTheWay_0 : decode cX3_isNestInTheWay 0 = .ok (.iconst 0, 1) := by decide +kernel
theorem dX3_isNestInTheWay_1 : decode cX3_isNestInTheWay 1 = .ok (.istore_n 1, 1) := by decide +kernel
theorem dX3_isNestInTheWay_2 : decode cX3_isNestInTheWay 2 = .ok (.iload_n 1, 1) := by decide +kernel
theorem dX3_isNestInTheWay_3 : decode cX3_isNestInTheWay 3 = .ok (.bipush 8, 2) := by decide +kernel
theorem dX3_isNestInTheWay_5 : decode cX3_isNestInTheWay 5 = .ok (.if_icmp .ge 43, 3) := by decide +kernel
theorem dX3_isNestInTheWay_8 : decode cX3_isNestInTheWay 8 = .ok (.aload_n 0, 1) := by decide +kernel
theorem dX3_isNestInTheWay_9 : decode cX3_isNestInTheWay 9 = .ok (.getfield 10, 3) := by decide +kernel
theorem dX3_isNestInTheWay_12 : decode cX3_isNestInTheWay 12 = .ok (.iload_n 1, 1) := by decide +kernel
theorem dX3_isNestInTheWay_13 : decode cX3_isNestInTheWay 13 = .ok (.invokevirtual 58, 3) := by decide +kernel
theorem dX3_isNestInTheWay_16 : decode cX3_isNestInTheWay 16 = .ok (.ifCond .eq 26, 3) := by decide +kernel
theorem dX3_isNestInTheWay_19 : decode cX3_isNestInTheWay 19 = .ok (.aload_n 0, 1) := by decide +kernel
theorem dX3_isNestInTheWay_20 : decode cX3_isNestInTheWay 20 = .ok (.getfield 26, 3) := by decide +kernel
theorem dX3_isNestInTheWay_23 : decode cX3_isNestInTheWay 23 = .ok (.getfield 77, 3) := by decide +kernel
theorem dX3_isNestInTheWay_26 : decode cX3_isNestInTheWay 26 = .ok (.iload_n 1, 1) := by decide +kernel
theorem dX3_isNestInTheWay_27 : decode cX3_isNestInTheWay 27 = .ok (.iaload, 1) := by decide +kernel
theorem dX3_isNestInTheWay_28 : decode cX3_isNestInTheWay 28 = .ok (.aload_n 0, 1) := by decide +kernel
theorem dX3_isNestInTheWay_29 : decode cX3_isNestInTheWay 29 = .ok (.getfield 10, 3) := by decide +kernel
theorem dX3_isNestInTheWay_32 : decode cX3_isNestInTheWay 32 = .ok (.getfield 44, 3) := by decide +kernel
theorem dX3_isNestInTheWay_35 : decode cX3_isNestInTheWay 35 = .ok (.iload_n 1, 1) := by decide +kernel
theorem dX3_isNestInTheWay_36 : decode cX3_isNestInTheWay 36 = .ok (.iaload, 1) := by decide +kernel
theorem dX3_isNestInTheWay_37 : decode cX3_isNestInTheWay 37 = .ok (.if_icmp .ge 5, 3) := by decide +kernel
theorem dX3_isNestInTheWay_40 : decode cX3_isNestInTheWay 40 = .ok (.iconst 1, 1) := by decide +kernel
theorem dX3_isNestInTheWay_41 : decode cX3_isNestInTheWay 41 = .ok (.ireturn, 1) := by decide +kernel
theorem dX3_isNestInTheWay_42 : decode cX3_isNestInTheWay 42 = .ok (.iinc 1 1, 3) := by decide +kernel
theorem dX3_isNestInTheWay_45 : decode cX3_isNestInTheWay 45 = .ok (.goto (-43), 3) := by decide +kernel
theorem dX3_isNestInTheWay_48 : decode cX3_isNestInTheWay 48 = .ok (.iconst 0, 1) := by decide +kernel
theorem dX3_isNestInTheWay_49 : decode cX3_isNestInTheWay 49 = .ok (.ireturn, 1) := by decide +kernel
theorem dX3_errorOfSigning_0 : decode cX3_errorOfSigning 0 = .ok (.iload_n 1, 1) := by decide +kernel
theorem dX3_errorOfSigning_1 : decode cX3_errorOfSigning 1 = .ok (.iload_n 2, 1) := by decide +kernel
theorem dX3_errorOfSigning_2 : decode cX3_errorOfSigning 2 = .ok (.iload_n 3, 1) := by decide +kernel
theorem dX3_errorOfSigning_3 : decode cX3_errorOfSigning 3 = .ok (.invokestatic 174, 3) := by decide +kernel
theorem dX3_errorOfSigning_6 : decode cX3_errorOfSigning 6 = .ok (.ifCond .ne 5, 3) := by decide +kernel
theorem dX3_errorOfSigning_9 : decode cX3_errorOfSigning 9 = .ok (.iconst (-1), 1) := by decide +kernel
theorem dX3_errorOfSigning_10 : decode cX3_errorOfSigning 10 = .ok (.ireturn, 1) := by decide +kernel
theorem dX3_errorOfSigning_11 : decode cX3_errorOfSigning 11 = .ok (.aload_n 0, 1) := by decide +kernel
theorem dX3_errorOfSigning_12 : decode cX3_errorOfSigning 12 = .ok (.getfield 10, 3) := by decide +kernel
theorem dX3_errorOfSigning_15 : decode cX3_errorOfSigning 15 = .ok (.getfield 101, 3) := by decide +kernel
theorem dX3_errorOfSigning_18 : decode cX3_errorOfSigning 18 = .ok (.bipush 14, 2) := by decide +kernel
theorem dX3_errorOfSigning_20 : decode cX3_errorOfSigning 20 = .ok (.if_icmp .lt 8, 3) := by decide +kernel
theorem dX3_errorOfSigning_23 : decode cX3_errorOfSigning 23 = .ok (.bipush (-3), 2) := by decide +kernel
theorem dX3_errorOfSigning_25 : decode cX3_errorOfSigning 25 = .ok (.goto 4, 3) := by decide +kernel
theorem dX3_errorOfSigning_28 : decode cX3_errorOfSigning 28 = .ok (.iconst 0, 1) := by decide +kernel
theorem dX3_errorOfSigning_29 : decode cX3_errorOfSigning 29 = .ok (.ireturn, 1) := by decide +kernel
theorem dX3_reasonAgainst_0 : decode cX3_reasonAgainst 0 = .ok (.aload_n 0, 1) := by decide +kernel
theorem dX3_reasonAgainst_1 : decode cX3_reasonAgainst 1 = .ok (.getfield 26, 3) := by decide +kernel
theorem dX3_reasonAgainst_4 : decode cX3_reasonAgainst 4 = .ok (.aload_n 0, 1) := by decide +kernel
theorem dX3_reasonAgainst_5 : decode cX3_reasonAgainst 5 = .ok (.getfield 10, 3) := by decide +kernel
theorem dX3_reasonAgainst_8 : decode cX3_reasonAgainst 8 = .ok (.iload_n 1, 1) := by decide +kernel
theorem dX3_reasonAgainst_9 : decode cX3_reasonAgainst 9 = .ok (.iload_n 2, 1) := by decide +kernel
theorem dX3_reasonAgainst_10 : decode cX3_reasonAgainst 10 = .ok (.iload_n 3, 1) := by decide +kernel
theorem dX3_reasonAgainst_11 : decode cX3_reasonAgainst 11 = .ok (.invokevirtual 206, 3) := by decide +kernel
theorem dX3_reasonAgainst_14 : decode cX3_reasonAgainst 14 = .ok (.ifCond .ne 5, 3) := by decide +kernel
theorem dX3_reasonAgainst_17 : decode cX3_reasonAgainst 17 = .ok (.iconst 1, 1) := by decide +kernel
theorem dX3_reasonAgainst_18 : decode cX3_reasonAgainst 18 = .ok (.ireturn, 1) := by decide +kernel
theorem dX3_reasonAgainst_19 : decode cX3_reasonAgainst 19 = .ok (.aload_n 0, 1) := by decide +kernel
theorem dX3_reasonAgainst_20 : decode cX3_reasonAgainst 20 = .ok (.getfield 26, 3) := by decide +kernel
theorem dX3_reasonAgainst_23 : decode cX3_reasonAgainst 23 = .ok (.aload_n 0, 1) := by decide +kernel
theorem dX3_reasonAgainst_24 : decode cX3_reasonAgainst 24 = .ok (.getfield 10, 3) := by decide +kernel
theorem dX3_reasonAgainst_27 : decode cX3_reasonAgainst 27 = .ok (.iload_n 1, 1) := by decide +kernel
theorem dX3_reasonAgainst_28 : decode cX3_reasonAgainst 28 = .ok (.iload_n 2, 1) := by decide +kernel
theorem dX3_reasonAgainst_29 : decode cX3_reasonAgainst 29 = .ok (.iconst (-1), 1) := by decide +kernel
theorem dX3_reasonAgainst_30 : decode cX3_reasonAgainst 30 = .ok (.invokevirtual 165, 3) := by decide +kernel
theorem dX3_reasonAgainst_33 : decode cX3_reasonAgainst 33 = .ok (.iload_n 3, 1) := by decide +kernel
theorem dX3_reasonAgainst_34 : decode cX3_reasonAgainst 34 = .ok (.if_icmp .gt 7, 3) := by decide +kernel
theorem dX3_reasonAgainst_37 : decode cX3_reasonAgainst 37 = .ok (.iconst 1, 1) := by decide +kernel
theorem dX3_reasonAgainst_38 : decode cX3_reasonAgainst 38 = .ok (.goto 4, 3) := by decide +kernel
theorem dX3_reasonAgainst_41 : decode cX3_reasonAgainst 41 = .ok (.iconst 0, 1) := by decide +kernel
theorem dX3_reasonAgainst_42 : decode cX3_reasonAgainst 42 = .ok (.istore 4, 2) := by decide +kernel
theorem dX3_reasonAgainst_44 : decode cX3_reasonAgainst 44 = .ok (.iload 4, 2) := by decide +kernel
theorem dX3_reasonAgainst_46 : decode cX3_reasonAgainst 46 = .ok (.ifCond .eq 7, 3) := by decide +kernel
theorem dX3_reasonAgainst_49 : decode cX3_reasonAgainst 49 = .ok (.iconst 2, 1) := by decide +kernel
theorem dX3_reasonAgainst_50 : decode cX3_reasonAgainst 50 = .ok (.goto 4, 3) := by decide +kernel
theorem dX3_reasonAgainst_53 : decode cX3_reasonAgainst 53 = .ok (.iconst 0, 1) := by decide +kernel
theorem dX3_reasonAgainst_54 : decode cX3_reasonAgainst 54 = .ok (.ireturn, 1) := by decide +kernel
theorem dX3_signOne_0 : decode cX3_signOne 0 = .ok (.aload_n 0, 1) := by decide +kernel
theorem dX3_signOne_1 : decode cX3_signOne 1 = .ok (.iload_n 1, 1) := by decide +kernel
theorem dX3_signOne_2 : decode cX3_signOne 2 = .ok (.iload_n 2, 1) := by decide +kernel
theorem dX3_signOne_3 : decode cX3_signOne 3 = .ok (.iload_n 3, 1) := by decide +kernel
theorem dX3_signOne_4 : decode cX3_signOne 4 = .ok (.invokevirtual 178, 3) := by decide +kernel
theorem dX3_signOne_7 : decode cX3_signOne 7 = .ok (.istore 4, 2) := by decide +kernel
theorem dX3_signOne_9 : decode cX3_signOne 9 = .ok (.iload 4, 2) := by decide +kernel
theorem dX3_signOne_11 : decode cX3_signOne 11 = .ok (.ifCond .eq 10, 3) := by decide +kernel
theorem dX3_signOne_14 : decode cX3_signOne 14 = .ok (.aload_n 0, 1) := by decide +kernel
theorem dX3_signOne_15 : decode cX3_signOne 15 = .ok (.iload 4, 2) := by decide +kernel
theorem dX3_signOne_17 : decode cX3_signOne 17 = .ok (.invokevirtual 61, 3) := by decide +kernel
theorem dX3_signOne_20 : decode cX3_signOne 20 = .ok (.ireturn, 1) := by decide +kernel
theorem dX3_signOne_21 : decode cX3_signOne 21 = .ok (.aload_n 0, 1) := by decide +kernel
theorem dX3_signOne_22 : decode cX3_signOne 22 = .ok (.getfield 10, 3) := by decide +kernel
theorem dX3_signOne_25 : decode cX3_signOne 25 = .ok (.iload_n 1, 1) := by decide +kernel
theorem dX3_signOne_26 : decode cX3_signOne 26 = .ok (.iload_n 2, 1) := by decide +kernel
theorem dX3_signOne_27 : decode cX3_signOne 27 = .ok (.iload_n 3, 1) := by decide +kernel
theorem dX3_signOne_28 : decode cX3_signOne 28 = .ok (.invokevirtual 221, 3) := by decide +kernel
theorem dX3_signOne_31 : decode cX3_signOne 31 = .ok (.bipush 10, 2) := by decide +kernel
theorem dX3_signOne_33 : decode cX3_signOne 33 = .ok (.aload_n 0, 1) := by decide +kernel
theorem dX3_signOne_34 : decode cX3_signOne 34 = .ok (.getfield 10, 3) := by decide +kernel
theorem dX3_signOne_37 : decode cX3_signOne 37 = .ok (.getfield 101, 3) := by decide +kernel
theorem dX3_signOne_40 : decode cX3_signOne 40 = .ok (.iadd, 1) := by decide +kernel
theorem dX3_signOne_41 : decode cX3_signOne 41 = .ok (.iconst 1, 1) := by decide +kernel
theorem dX3_signOne_42 : decode cX3_signOne 42 = .ok (.isub, 1) := by decide +kernel
theorem dX3_signOne_43 : decode cX3_signOne 43 = .ok (.ireturn, 1) := by decide +kernel
theorem dX3_signPart_0 : decode cX3_signPart 0 = .ok (.aload_n 0, 1) := by decide +kernel
theorem dX3_signPart_1 : decode cX3_signPart 1 = .ok (.getfield 33, 3) := by decide +kernel
theorem dX3_signPart_4 : decode cX3_signPart 4 = .ok (.getfield 225, 3) := by decide +kernel
theorem dX3_signPart_7 : decode cX3_signPart 7 = .ok (.iload_n 1, 1) := by decide +kernel
theorem dX3_signPart_8 : decode cX3_signPart 8 = .ok (.iaload, 1) := by decide +kernel
theorem dX3_signPart_9 : decode cX3_signPart 9 = .ok (.istore_n 2, 1) := by decide +kernel
theorem dX3_signPart_10 : decode cX3_signPart 10 = .ok (.aload_n 0, 1) := by decide +kernel
theorem dX3_signPart_11 : decode cX3_signPart 11 = .ok (.getfield 33, 3) := by decide +kernel
theorem dX3_signPart_14 : decode cX3_signPart 14 = .ok (.getfield 226, 3) := by decide +kernel
theorem dX3_signPart_17 : decode cX3_signPart 17 = .ok (.iload_n 1, 1) := by decide +kernel
theorem dX3_signPart_18 : decode cX3_signPart 18 = .ok (.iaload, 1) := by decide +kernel
theorem dX3_signPart_19 : decode cX3_signPart 19 = .ok (.istore_n 3, 1) := by decide +kernel
theorem dX3_signPart_20 : decode cX3_signPart 20 = .ok (.aload_n 0, 1) := by decide +kernel
theorem dX3_signPart_21 : decode cX3_signPart 21 = .ok (.getfield 33, 3) := by decide +kernel
theorem dX3_signPart_24 : decode cX3_signPart 24 = .ok (.getfield 227, 3) := by decide +kernel
theorem dX3_signPart_27 : decode cX3_signPart 27 = .ok (.iload_n 1, 1) := by decide +kernel
theorem dX3_signPart_28 : decode cX3_signPart 28 = .ok (.iaload, 1) := by decide +kernel
theorem dX3_signPart_29 : decode cX3_signPart 29 = .ok (.istore 4, 2) := by decide +kernel
theorem dX3_signPart_31 : decode cX3_signPart 31 = .ok (.aload_n 0, 1) := by decide +kernel
theorem dX3_signPart_32 : decode cX3_signPart 32 = .ok (.iload_n 2, 1) := by decide +kernel
theorem dX3_signPart_33 : decode cX3_signPart 33 = .ok (.iload_n 3, 1) := by decide +kernel
theorem dX3_signPart_34 : decode cX3_signPart 34 = .ok (.iload 4, 2) := by decide +kernel
theorem dX3_signPart_36 : decode cX3_signPart 36 = .ok (.invokevirtual 87, 3) := by decide +kernel
theorem dX3_signPart_39 : decode cX3_signPart 39 = .ok (.istore 5, 2) := by decide +kernel
theorem dX3_signPart_41 : decode cX3_signPart 41 = .ok (.iload 5, 2) := by decide +kernel
theorem dX3_signPart_43 : decode cX3_signPart 43 = .ok (.ifCond .eq 8, 3) := by decide +kernel
theorem dX3_signPart_46 : decode cX3_signPart 46 = .ok (.iload 5, 2) := by decide +kernel
theorem dX3_signPart_48 : decode cX3_signPart 48 = .ok (.goto 11, 3) := by decide +kernel
theorem dX3_signPart_51 : decode cX3_signPart 51 = .ok (.aload_n 0, 1) := by decide +kernel
theorem dX3_signPart_52 : decode cX3_signPart 52 = .ok (.iload_n 2, 1) := by decide +kernel
theorem dX3_signPart_53 : decode cX3_signPart 53 = .ok (.iload_n 3, 1) := by decide +kernel
theorem dX3_signPart_54 : decode cX3_signPart 54 = .ok (.iload 4, 2) := by decide +kernel
theorem dX3_signPart_56 : decode cX3_signPart 56 = .ok (.invokevirtual 91, 3) := by decide +kernel
theorem dX3_signPart_59 : decode cX3_signPart 59 = .ok (.ireturn, 1) := by decide +kernel
theorem dX3_isNothingNewBesideOthers_0 : decode cX3_isNothingNewBesideOthers 0 = .ok (.aload_n 0, 1) := by decide +kernel
theorem dX3_isNothingNewBesideOthers_1 : decode cX3_isNothingNewBesideOthers 1 = .ok (.getfield 10, 3) := by decide +kernel
theorem dX3_isNothingNewBesideOthers_4 : decode cX3_isNothingNewBesideOthers 4 = .ok (.getfield 150, 3) := by decide +kernel
theorem dX3_isNothingNewBesideOthers_7 : decode cX3_isNothingNewBesideOthers 7 = .ok (.iload_n 1, 1) := by decide +kernel
theorem dX3_isNothingNewBesideOthers_8 : decode cX3_isNothingNewBesideOthers 8 = .ok (.iaload, 1) := by decide +kernel
theorem dX3_isNothingNewBesideOthers_9 : decode cX3_isNothingNewBesideOthers 9 = .ok (.istore_n 2, 1) := by decide +kernel
theorem dX3_isNothingNewBesideOthers_10 : decode cX3_isNothingNewBesideOthers 10 = .ok (.aload_n 0, 1) := by decide +kernel
theorem dX3_isNothingNewBesideOthers_11 : decode cX3_isNothingNewBesideOthers 11 = .ok (.getfield 10, 3) := by decide +kernel
theorem dX3_isNothingNewBesideOthers_14 : decode cX3_isNothingNewBesideOthers 14 = .ok (.getfield 153, 3) := by decide +kernel
theorem dX3_isNothingNewBesideOthers_17 : decode cX3_isNothingNewBesideOthers 17 = .ok (.iload_n 1, 1) := by decide +kernel
theorem dX3_isNothingNewBesideOthers_18 : decode cX3_isNothingNewBesideOthers 18 = .ok (.iaload, 1) := by decide +kernel
theorem dX3_isNothingNewBesideOthers_19 : decode cX3_isNothingNewBesideOthers 19 = .ok (.istore_n 3, 1) := by decide +kernel
theorem dX3_isNothingNewBesideOthers_20 : decode cX3_isNothingNewBesideOthers 20 = .ok (.aload_n 0, 1) := by decide +kernel
theorem dX3_isNothingNewBesideOthers_21 : decode cX3_isNothingNewBesideOthers 21 = .ok (.getfield 26, 3) := by decide +kernel
theorem dX3_isNothingNewBesideOthers_24 : decode cX3_isNothingNewBesideOthers 24 = .ok (.aload_n 0, 1) := by decide +kernel
theorem dX3_isNothingNewBesideOthers_25 : decode cX3_isNothingNewBesideOthers 25 = .ok (.getfield 10, 3) := by decide +kernel
theorem dX3_isNothingNewBesideOthers_28 : decode cX3_isNothingNewBesideOthers 28 = .ok (.iload_n 2, 1) := by decide +kernel
theorem dX3_isNothingNewBesideOthers_29 : decode cX3_isNothingNewBesideOthers 29 = .ok (.iload_n 3, 1) := by decide +kernel
theorem dX3_isNothingNewBesideOthers_30 : decode cX3_isNothingNewBesideOthers 30 = .ok (.iload_n 1, 1) := by decide +kernel
theorem dX3_isNothingNewBesideOthers_31 : decode cX3_isNothingNewBesideOthers 31 = .ok (.invokevirtual 165, 3) := by decide +kernel
theorem dX3_isNothingNewBesideOthers_34 : decode cX3_isNothingNewBesideOthers 34 = .ok (.aload_n 0, 1) := by decide +kernel
theorem dX3_isNothingNewBesideOthers_35 : decode cX3_isNothingNewBesideOthers 35 = .ok (.getfield 10, 3) := by decide +kernel
theorem dX3_isNothingNewBesideOthers_38 : decode cX3_isNothingNewBesideOthers 38 = .ok (.getfield 156, 3) := by decide +kernel
theorem dX3_isNothingNewBesideOthers_41 : decode cX3_isNothingNewBesideOthers 41 = .ok (.iload_n 1, 1) := by decide +kernel
theorem dX3_isNothingNewBesideOthers_42 : decode cX3_isNothingNewBesideOthers 42 = .ok (.iaload, 1) := by decide +kernel
theorem dX3_isNothingNewBesideOthers_43 : decode cX3_isNothingNewBesideOthers 43 = .ok (.if_icmp .gt 7, 3) := by decide +kernel
theorem dX3_isNothingNewBesideOthers_46 : decode cX3_isNothingNewBesideOthers 46 = .ok (.iconst 1, 1) := by decide +kernel
theorem dX3_isNothingNewBesideOthers_47 : decode cX3_isNothingNewBesideOthers 47 = .ok (.goto 4, 3) := by decide +kernel
theorem dX3_isNothingNewBesideOthers_50 : decode cX3_isNothingNewBesideOthers 50 = .ok (.iconst 0, 1) := by decide +kernel
theorem dX3_isNothingNewBesideOthers_51 : decode cX3_isNothingNewBesideOthers 51 = .ok (.ireturn, 1) := by decide +kernel
end
section
theorem dX4_init_0 : decode cX4_init 0 = .ok (.aload_n 0, 1) := by decide +kernel
theorem dX4_init_1 : decode cX4_init 1 = .ok (.invokespecial 1, 3) := by decide +kernel
theorem dX4_init_4 : decode cX4_init 4 = .ok (.aload_n 0, 1) := by decide +kernel
theorem dX4_init_5 : decode cX4_init 5 = .ok (.bipush 95, 2) := by decide +kernel
theorem dX4_init_7 : decode cX4_init 7 = .ok (.newarray .int, 2) := by decide +kernel
theorem dX4_init_9 : decode cX4_init 9 = .ok (.putfield 7, 3) := by decide +kernel
theorem dX4_init_12 : decode cX4_init 12 = .ok (.aload_n 0, 1) := by decide +kernel
theorem dX4_init_13 : decode cX4_init 13 = .ok (.bipush 95, 2) := by decide +kernel
theorem dX4_init_15 : decode cX4_init 15 = .ok (.newarray .int, 2) := by decide +kernel
theorem dX4_init_17 : decode cX4_init 17 = .ok (.putfield 13, 3) := by decide +kernel
theorem dX4_init_20 : decode cX4_init 20 = .ok (.aload_n 0, 1) := by decide +kernel
theorem dX4_init_21 : decode cX4_init 21 = .ok (.sipush 380, 3) := by decide +kernel
theorem dX4_init_24 : decode cX4_init 24 = .ok (.newarray .int, 2) := by decide +kernel
theorem dX4_init_26 : decode cX4_init 26 = .ok (.putfield 16, 3) := by decide +kernel
theorem dX4_init_29 : decode cX4_init 29 = .ok (.aload_n 0, 1) := by decide +kernel
theorem dX4_init_30 : decode cX4_init 30 = .ok (.bipush 95, 2) := by decide +kernel
theorem dX4_init_32 : decode cX4_init 32 = .ok (.newarray .int, 2) := by decide +kernel
theorem dX4_init_34 : decode cX4_init 34 = .ok (.putfield 19, 3) := by decide +kernel
theorem dX4_init_37 : decode cX4_init 37 = .ok (.aload_n 0, 1) := by decide +kernel
theorem dX4_init_38 : decode cX4_init 38 = .ok (.bipush 60, 2) := by decide +kernel
theorem dX4_init_40 : decode cX4_init 40 = .ok (.newarray .int, 2) := by decide +kernel
theorem dX4_init_42 : decode cX4_init 42 = .ok (.putfield 22, 3) := by decide +kernel
theorem dX4_init_45 : decode cX4_init 45 = .ok (.aload_n 0, 1) := by decide +kernel
theorem dX4_init_46 : decode cX4_init 46 = .ok (.bipush 8, 2) := by decide +kernel
theorem dX4_init_48 : decode cX4_init 48 = .ok (.newarray .int, 2) := by decide +kernel
theorem dX4_init_50 : decode cX4_init 50 = .ok (.putfield 25, 3) := by decide +kernel
theorem dX4_init_53 : decode cX4_init 53 = .ok (.aload_n 0, 1) := by decide +kernel
theorem dX4_init_54 : decode cX4_init 54 = .ok (.bipush 8, 2) := by decide +kernel
theorem dX4_init_56 : decode cX4_init 56 = .ok (.newarray .int, 2) := by decide +kernel
theorem dX4_init_58 : decode cX4_init 58 = .ok (.putfield 28, 3) := by decide +kernel
theorem dX4_init_61 : decode cX4_init 61 = .ok (.aload_n 0, 1) := by decide +kernel
theorem dX4_init_62 : decode cX4_init 62 = .ok (.iconst 3, 1) := by decide +kernel
theorem dX4_init_63 : decode cX4_init 63 = .ok (.newarray .int, 2) := by decide +kernel
theorem dX4_init_65 : decode cX4_init 65 = .ok (.putfield 31, 3) := by decide +kernel
theorem dX4_init_68 : decode cX4_init 68 = .ok (.aload_n 0, 1) := by decide +kernel
theorem dX4_init_69 : decode cX4_init 69 = .ok (.getfield 7, 3) := by decide +kernel
theorem dX4_init_72 : decode cX4_init 72 = .ok (.iconst 1, 1) := by decide +kernel
theorem dX4_init_73 : decode cX4_init 73 = .ok (.bipush 10, 2) := by decide +kernel
theorem dX4_init_75 : decode cX4_init 75 = .ok (.iastore, 1) := by decide +kernel
theorem dX4_init_76 : decode cX4_init 76 = .ok (.iconst 0, 1) := by decide +kernel
theorem dX4_init_77 : decode cX4_init 77 = .ok (.istore_n 1, 1) := by decide +kernel
theorem dX4_init_78 : decode cX4_init 78 = .ok (.iload_n 1, 1) := by decide +kernel
theorem dX4_init_79 : decode cX4_init 79 = .ok (.bipush 8, 2) := by decide +kernel
theorem dX4_init_81 : decode cX4_init 81 = .ok (.if_icmp .ge 24, 3) := by decide +kernel
theorem dX4_init_84 : decode cX4_init 84 = .ok (.aload_n 0, 1) := by decide +kernel
theorem dX4_init_85 : decode cX4_init 85 = .ok (.iload_n 1, 1) := by decide +kernel
theorem dX4_init_86 : decode cX4_init 86 = .ok (.iconst 0, 1) := by decide +kernel
theorem dX4_init_87 : decode cX4_init 87 = .ok (.bipush 10, 2) := by decide +kernel
theorem dX4_init_89 : decode cX4_init 89 = .ok (.invokevirtual 34, 3) := by decide +kernel
theorem dX4_init_92 : decode cX4_init 92 = .ok (.aload_n 0, 1) := by decide +kernel
theorem dX4_init_93 : decode cX4_init 93 = .ok (.iload_n 1, 1) := by decide +kernel
theorem dX4_init_94 : decode cX4_init 94 = .ok (.iconst 1, 1) := by decide +kernel
theorem dX4_init_95 : decode cX4_init 95 = .ok (.iconst 1, 1) := by decide +kernel
theorem dX4_init_96 : decode cX4_init 96 = .ok (.invokevirtual 34, 3) := by decide +kernel
theorem dX4_init_99 : decode cX4_init 99 = .ok (.iinc 1 1, 3) := by decide +kernel
theorem dX4_init_102 : decode cX4_init 102 = .ok (.goto (-24), 3) := by decide +kernel
theorem dX4_init_105 : decode cX4_init 105 = .ok (.return_, 1) := by decide +kernel
theorem dX4_in_0 : decode cX4_in 0 = .ok (.iload_n 0, 1) := by decide +kernel
theorem dX4_in_1 : decode cX4_in 1 = .ok (.iload_n 1, 1) := by decide +kernel
theorem dX4_in_2 : decode cX4_in 2 = .ok (.if_icmp .lt 12, 3) := by decide +kernel
theorem dX4_in_5 : decode cX4_in 5 = .ok (.iload_n 0, 1) := by decide +kernel
theorem dX4_in_6 : decode cX4_in 6 = .ok (.iload_n 2, 1) := by decide +kernel
theorem dX4_in_7 : decode cX4_in 7 = .ok (.if_icmp .gt 7, 3) := by decide +kernel
theorem dX4_in_10 : decode cX4_in 10 = .ok (.iconst 1, 1) := by decide +kernel
theorem dX4_in_11 : decode cX4_in 11 = .ok (.goto 4, 3) := by decide +kernel
theorem dX4_in_14 : decode cX4_in 14 = .ok (.iconst 0, 1) := by decide +kernel
theorem dX4_in_15 : decode cX4_in 15 = .ok (.ireturn, 1) := by decide +kernel
theorem dX4_copies_0 : decode cX4_copies 0 = .ok (.iconst 0, 1) := by decide +kernel
theorem dX4_copies_1 : decode cX4_copies 1 = .ok (.istore 4, 2) := by decide +kernel
theorem dX4_copies_3 : decode cX4_copies 3 = .ok (.iload 4, 2) := by decide +kernel
theorem dX4_copies_5 : decode cX4_copies 5 = .ok (.bipush 95, 2) := by decide +kernel
theorem dX4_copies_7 : decode cX4_copies 7 = .ok (.if_icmp .ge 21, 3) := by decide +kernel
theorem dX4_copies_10 : decode cX4_copies 10 = .ok (.aload_n 2, 1) := by decide +kernel
theorem dX4_copies_11 : decode cX4_copies 11 = .ok (.iload_n 3, 1) := by decide +kernel
theorem dX4_copies_12 : decode cX4_copies 12 = .ok (.iload 4, 2) := by decide +kernel
theorem dX4_copies_14 : decode cX4_copies 14 = .ok (.iadd, 1) := by decide +kernel
theorem dX4_copies_15 : decode cX4_copies 15 = .ok (.aload_n 0, 1) := by decide +kernel
theorem dX4_copies_16 : decode cX4_copies 16 = .ok (.iload_n 1, 1) := by decide +kernel
theorem dX4_copies_17 : decode cX4_copies 17 = .ok (.iload 4, 2) := by decide +kernel
theorem dX4_copies_19 : decode cX4_copies 19 = .ok (.iadd, 1) := by decide +kernel
theorem dX4_copies_20 : decode cX4_copies 20 = .ok (.iaload, 1) := by decide +kernel
theorem dX4_copies_21 : decode cX4_copies 21 = .ok (.iastore, 1) := by decide +kernel
theorem dX4_copies_22 : decode cX4_copies 22 = .ok (.iinc 4 1, 3) := by decide +kernel
theorem dX4_copies_25 : decode cX4_copies 25 = .ok (.goto (-22), 3) := by decide +kernel
theorem dX4_copies_28 : decode cX4_copies 28 = .ok (.return_, 1) := by decide +kernel
theorem dX4_records_0 : decode cX4_records 0 = .ok (.aload_n 0, 1) := by decide +kernel
theorem dX4_records_1 : decode cX4_records 1 = .ok (.getfield 38, 3) := by decide +kernel
theorem dX4_records_4 : decode cX4_records 4 = .ok (.iconst 4, 1) := by decide +kernel
theorem dX4_records_5 : decode cX4_records 5 = .ok (.if_icmp .ne 43, 3) := by decide +kernel
theorem dX4_records_8 : decode cX4_records 8 = .ok (.iconst 0, 1) := by decide +kernel
theorem dX4_records_9 : decode cX4_records 9 = .ok (.istore_n 1, 1) := by decide +kernel
theorem dX4_records_10 : decode cX4_records 10 = .ok (.iload_n 1, 1) := by decide +kernel
theorem dX4_records_11 : decode cX4_records 11 = .ok (.sipush 285, 3) := by decide +kernel
theorem dX4_records_14 : decode cX4_records 14 = .ok (.if_icmp .ge 24, 3) := by decide +kernel
theorem dX4_records_17 : decode cX4_records 17 = .ok (.aload_n 0, 1) := by decide +kernel
theorem dX4_records_18 : decode cX4_records 18 = .ok (.getfield 16, 3) := by decide +kernel
theorem dX4_records_21 : decode cX4_records 21 = .ok (.iload_n 1, 1) := by decide +kernel
theorem dX4_records_22 : decode cX4_records 22 = .ok (.aload_n 0, 1) := by decide +kernel
theorem dX4_records_23 : decode cX4_records 23 = .ok (.getfield 16, 3) := by decide +kernel
theorem dX4_records_26 : decode cX4_records 26 = .ok (.iload_n 1, 1) := by decide +kernel
theorem dX4_records_27 : decode cX4_records 27 = .ok (.bipush 95, 2) := by decide +kernel
theorem dX4_records_29 : decode cX4_records 29 = .ok (.iadd, 1) := by decide +kernel
theorem dX4_records_30 : decode cX4_records 30 = .ok (.iaload, 1) := by decide +kernel
theorem dX4_records_31 : decode cX4_records 31 = .ok (.iastore, 1) := by decide +kernel
theorem dX4_records_32 : decode cX4_records 32 = .ok (.iinc 1 1, 3) := by decide +kernel
theorem dX4_records_35 : decode cX4_records 35 = .ok (.goto (-25), 3) := by decide +kernel
theorem dX4_records_38 : decode cX4_records 38 = .ok (.aload_n 0, 1) := by decide +kernel
theorem dX4_records_39 : decode cX4_records 39 = .ok (.dup, 1) := by decide +kernel
theorem dX4_records_40 : decode cX4_records 40 = .ok (.getfield 38, 3) := by decide +kernel
theorem dX4_records_43 : decode cX4_records 43 = .ok (.iconst 1, 1) := by decide +kernel
theorem dX4_records_44 : decode cX4_records 44 = .ok (.isub, 1) := by decide +kernel
theorem dX4_records_45 : decode cX4_records 45 = .ok (.putfield 38, 3) := by decide +kernel
theorem dX4_records_48 : decode cX4_records 48 = .ok (.aload_n 0, 1) := by decide +kernel
theorem dX4_records_49 : decode cX4_records 49 = .ok (.getfield 7, 3) := by decide +kernel
theorem dX4_records_52 : decode cX4_records 52 = .ok (.iconst 0, 1) := by decide +kernel
theorem dX4_records_53 : decode cX4_records 53 = .ok (.aload_n 0, 1) := by decide +kernel
theorem dX4_records_54 : decode cX4_records 54 = .ok (.getfield 16, 3) := by decide +kernel
theorem dX4_records_57 : decode cX4_records 57 = .ok (.bipush 95, 2) := by decide +kernel
theorem dX4_records_59 : decode cX4_records 59 = .ok (.aload_n 0, 1) := by decide +kernel
theorem dX4_records_60 : decode cX4_records 60 = .ok (.getfield 38, 3) := by decide +kernel
theorem dX4_records_63 : decode cX4_records 63 = .ok (.imul, 1) := by decide +kernel
theorem dX4_records_64 : decode cX4_records 64 = .ok (.invokestatic 42, 3) := by decide +kernel
theorem dX4_records_67 : decode cX4_records 67 = .ok (.aload_n 0, 1) := by decide +kernel
theorem dX4_records_68 : decode cX4_records 68 = .ok (.dup, 1) := by decide +kernel
theorem dX4_records_69 : decode cX4_records 69 = .ok (.getfield 38, 3) := by decide +kernel
theorem dX4_records_72 : decode cX4_records 72 = .ok (.iconst 1, 1) := by decide +kernel
theorem dX4_records_73 : decode cX4_records 73 = .ok (.iadd, 1) := by decide +kernel
theorem dX4_records_74 : decode cX4_records 74 = .ok (.putfield 38, 3) := by decide +kernel
theorem dX4_records_77 : decode cX4_records 77 = .ok (.return_, 1) := by decide +kernel
theorem dX4_isHedge_0 : decode cX4_isHedge 0 = .ok (.iload_n 0, 1) := by decide +kernel
theorem dX4_isHedge_1 : decode cX4_isHedge 1 = .ok (.iconst 0, 1) := by decide +kernel
theorem dX4_isHedge_2 : decode cX4_isHedge 2 = .ok (.bipush 7, 2) := by decide +kernel
theorem dX4_isHedge_4 : decode cX4_isHedge 4 = .ok (.invokestatic 46, 3) := by decide +kernel
theorem dX4_isHedge_7 : decode cX4_isHedge 7 = .ok (.ireturn, 1) := by decide +kernel
theorem dX4_isTreaty_0 : decode cX4_isTreaty 0 = .ok (.iload_n 1, 1) := by decide +kernel
theorem dX4_isTreaty_1 : decode cX4_isTreaty 1 = .ok (.iconst 0, 1) := by decide +kernel
theorem dX4_isTreaty_2 : decode cX4_isTreaty 2 = .ok (.aload_n 0, 1) := by decide +kernel
theorem dX4_isTreaty_3 : decode cX4_isTreaty 3 = .ok (.getfield 7, 3) := by decide +kernel
theorem dX4_isTreaty_6 : decode cX4_isTreaty 6 = .ok (.iconst 2, 1) := by decide +kernel
theorem dX4_isTreaty_7 : decode cX4_isTreaty 7 = .ok (.iaload, 1) := by decide +kernel
theorem dX4_isTreaty_8 : decode cX4_isTreaty 8 = .ok (.iconst 1, 1) := by decide +kernel
theorem dX4_isTreaty_9 : decode cX4_isTreaty 9 = .ok (.isub, 1) := by decide +kernel
theorem dX4_isTreaty_10 : decode cX4_isTreaty 10 = .ok (.invokestatic 46, 3) := by decide +kernel
theorem dX4_isTreaty_13 : decode cX4_isTreaty 13 = .ok (.ireturn, 1) := by decide +kernel
theorem dX4_of_0 : decode cX4_of 0 = .ok (.aload_n 0, 1) := by decide +kernel
theorem dX4_of_1 : decode cX4_of 1 = .ok (.getfield 7, 3) := by decide +kernel
theorem dX4_of_4 : decode cX4_of 4 = .ok (.bipush 7, 2) := by decide +kernel
theorem dX4_of_6 : decode cX4_of 6 = .ok (.iconst 4, 1) := by decide +kernel
theorem dX4_of_7 : decode cX4_of 7 = .ok (.iload_n 1, 1) := by decide +kernel
theorem dX4_of_8 : decode cX4_of 8 = .ok (.imul, 1) := by decide +kernel
theorem dX4_of_9 : decode cX4_of 9 = .ok (.iadd, 1) := by decide +kernel
theorem dX4_of_10 : decode cX4_of 10 = .ok (.iload_n 2, 1) := by decide +kernel
theorem dX4_of_11 : decode cX4_of 11 = .ok (.iadd, 1) := by decide +kernel
theorem dX4_of_12 : decode cX4_of 12 = .ok (.iaload, 1) := by decide +kernel
theorem dX4_of_13 : decode cX4_of 13 = .ok (.ireturn, 1) := by decide +kernel
theorem dX4_lays_0 : decode cX4_lays 0 = .ok (.aload_n 0, 1) := by decide +kernel
theorem dX4_lays_1 : decode cX4_lays 1 = .ok (.getfield 7, 3) := by decide +kernel
theorem dX4_lays_4 : decode cX4_lays 4 = .ok (.bipush 7, 2) := by decide +kernel
theorem dX4_lays_6 : decode cX4_lays 6 = .ok (.iconst 4, 1) := by decide +kernel
theorem dX4_lays_7 : decode cX4_lays 7 = .ok (.iload_n 1, 1) := by decide +kernel
theorem dX4_lays_8 : decode cX4_lays 8 = .ok (.imul, 1) := by decide +kernel
theorem dX4_lays_9 : decode cX4_lays 9 = .ok (.iadd, 1) := by decide +kernel
theorem dX4_lays_10 : decode cX4_lays 10 = .ok (.iload_n 2, 1) := by decide +kernel
theorem dX4_lays_11 : decode cX4_lays 11 = .ok (.iadd, 1) := by decide +kernel
theorem dX4_lays_12 : decode cX4_lays 12 = .ok (.iload_n 3, 1) := by decide +kernel
theorem dX4_lays_13 : decode cX4_lays 13 = .ok (.iastore, 1) := by decide +kernel
theorem dX4_lays_14 : decode cX4_lays 14 = .ok (.return_, 1) := by decide +kernel
theorem dX4_ofTreaty_0 : decode cX4_ofTreaty 0 = .ok (.aload_n 0, 1) := by decide +kernel
theorem dX4_ofTreaty_1 : decode cX4_ofTreaty 1 = .ok (.getfield 7, 3) := by decide +kernel
theorem dX4_ofTreaty_4 : decode cX4_ofTreaty 4 = .ok (.bipush 39, 2) := by decide +kernel
theorem dX4_ofTreaty_6 : decode cX4_ofTreaty 6 = .ok (.iconst 4, 1) := by decide +kernel
theorem dX4_ofTreaty_7 : decode cX4_ofTreaty 7 = .ok (.iload_n 1, 1) := by decide +kernel
theorem dX4_ofTreaty_8 : decode cX4_ofTreaty 8 = .ok (.imul, 1) := by decide +kernel
theorem dX4_ofTreaty_9 : decode cX4_ofTreaty 9 = .ok (.iadd, 1) := by decide +kernel
theorem dX4_ofTreaty_10 : decode cX4_ofTreaty 10 = .ok (.iload_n 2, 1) := by decide +kernel
theorem dX4_ofTreaty_11 : decode cX4_ofTreaty 11 = .ok (.iadd, 1) := by decide +kernel
theorem dX4_ofTreaty_12 : decode cX4_ofTreaty 12 = .ok (.iaload, 1) := by decide +kernel
theorem dX4_ofTreaty_13 : decode cX4_ofTreaty 13 = .ok (.ireturn, 1) := by decide +kernel
theorem dX4_laysTreaty_0 : decode cX4_laysTreaty 0 = .ok (.aload_n 0, 1) := by decide +kernel
theorem dX4_laysTreaty_1 : decode cX4_laysTreaty 1 = .ok (.getfield 7, 3) := by decide +kernel
theorem dX4_laysTreaty_4 : decode cX4_laysTreaty 4 = .ok (.bipush 39, 2) := by decide +kernel
theorem dX4_laysTreaty_6 : decode cX4_laysTreaty 6 = .ok (.iconst 4, 1) := by decide +kernel
theorem dX4_laysTreaty_7 : decode cX4_laysTreaty 7 = .ok (.iload_n 1, 1) := by decide +kernel
theorem dX4_laysTreaty_8 : decode cX4_laysTreaty 8 = .ok (.imul, 1) := by decide +kernel
theorem dX4_laysTreaty_9 : decode cX4_laysTreaty 9 = .ok (.iadd, 1) := by decide +kernel
theorem dX4_laysTreaty_10 : decode cX4_laysTreaty 10 = .ok (.iload_n 2, 1) := by decide +kernel
theorem dX4_laysTreaty_11 : decode cX4_laysTreaty 11 = .ok (.iadd, 1) := by decide +kernel
theorem dX4_laysTreaty_12 : decode cX4_laysTreaty 12 = .ok (.iload_n 3, 1) := by decide +kernel
theorem dX4_laysTreaty_13 : decode cX4_laysTreaty 13 = .ok (.iastore, 1) := by decide +kernel
theorem dX4_laysTreaty_14 : decode cX4_laysTreaty 14 = .ok (.return_, 1) := by decide +kernel
theorem dX4_isNested_0 : decode cX4_isNested 0 = .ok (.aload_n 0, 1) := by decide +kernel
theorem dX4_isNested_1 : decode cX4_isNested 1 = .ok (.getfield 7, 3) := by decide +kernel
theorem dX4_isNested_4 : decode cX4_isNested 4 = .ok (.iconst 0, 1) := by decide +kernel
theorem dX4_isNested_5 : decode cX4_isNested 5 = .ok (.iaload, 1) := by decide +kernel
theorem dX4_isNested_6 : decode cX4_isNested 6 = .ok (.aload_n 0, 1) := by decide +kernel
theorem dX4_isNested_7 : decode cX4_isNested 7 = .ok (.iload_n 1, 1) := by decide +kernel
theorem dX4_isNested_8 : decode cX4_isNested 8 = .ok (.iconst 2, 1) := by decide +kernel
theorem dX4_isNested_9 : decode cX4_isNested 9 = .ok (.invokevirtual 50, 3) := by decide +kernel
theorem dX4_isNested_12 : decode cX4_isNested 12 = .ok (.if_icmp .ge 7, 3) := by decide +kernel
theorem dX4_isNested_15 : decode cX4_isNested 15 = .ok (.iconst 1, 1) := by decide +kernel
theorem dX4_isNested_16 : decode cX4_isNested 16 = .ok (.goto 4, 3) := by decide +kernel
theorem dX4_isNested_19 : decode cX4_isNested 19 = .ok (.iconst 0, 1) := by decide +kernel
theorem dX4_isNested_20 : decode cX4_isNested 20 = .ok (.ireturn, 1) := by decide +kernel
theorem dX4_isForce_0 : decode cX4_isForce 0 = .ok (.aload_n 0, 1) := by decide +kernel
theorem dX4_isForce_1 : decode cX4_isForce 1 = .ok (.getfield 7, 3) := by decide +kernel
theorem dX4_isForce_4 : decode cX4_isForce 4 = .ok (.iconst 0, 1) := by decide +kernel
theorem dX4_isForce_5 : decode cX4_isForce 5 = .ok (.iaload, 1) := by decide +kernel
theorem dX4_isForce_6 : decode cX4_isForce 6 = .ok (.aload_n 0, 1) := by decide +kernel
theorem dX4_isForce_7 : decode cX4_isForce 7 = .ok (.iload_n 1, 1) := by decide +kernel
theorem dX4_isForce_8 : decode cX4_isForce 8 = .ok (.iconst 3, 1) := by decide +kernel
theorem dX4_isForce_9 : decode cX4_isForce 9 = .ok (.invokevirtual 54, 3) := by decide +kernel
theorem dX4_isForce_12 : decode cX4_isForce 12 = .ok (.if_icmp .lt 7, 3) := by decide +kernel
theorem dX4_isForce_15 : decode cX4_isForce 15 = .ok (.iconst 1, 1) := by decide +kernel
theorem dX4_isForce_16 : decode cX4_isForce 16 = .ok (.goto 4, 3) := by decide +kernel
theorem dX4_isForce_19 : decode cX4_isForce 19 = .ok (.iconst 0, 1) := by decide +kernel
theorem dX4_isForce_20 : decode cX4_isForce 20 = .ok (.ireturn, 1) := by decide +kernel
theorem dX4_slackOf_0 : decode cX4_slackOf 0 = .ok (.aload_n 0, 1) := by decide +kernel
theorem dX4_slackOf_1 : decode cX4_slackOf 1 = .ok (.iload_n 1, 1) := by decide +kernel
theorem dX4_slackOf_2 : decode cX4_slackOf 2 = .ok (.iconst 2, 1) := by decide +kernel
theorem dX4_slackOf_3 : decode cX4_slackOf 3 = .ok (.invokevirtual 54, 3) := by decide +kernel
theorem dX4_slackOf_6 : decode cX4_slackOf 6 = .ok (.aload_n 0, 1) := by decide +kernel
theorem dX4_slackOf_7 : decode cX4_slackOf 7 = .ok (.aload_n 0, 1) := by decide +kernel
theorem dX4_slackOf_8 : decode cX4_slackOf 8 = .ok (.iload_n 1, 1) := by decide +kernel
theorem dX4_slackOf_9 : decode cX4_slackOf 9 = .ok (.iconst 1, 1) := by decide +kernel
theorem dX4_slackOf_10 : decode cX4_slackOf 10 = .ok (.invokevirtual 54, 3) := by decide +kernel
theorem dX4_slackOf_13 : decode cX4_slackOf 13 = .ok (.iconst 0, 1) := by decide +kernel
theorem dX4_slackOf_14 : decode cX4_slackOf 14 = .ok (.invokevirtual 50, 3) := by decide +kernel
theorem dX4_slackOf_17 : decode cX4_slackOf 17 = .ok (.iadd, 1) := by decide +kernel
theorem dX4_slackOf_18 : decode cX4_slackOf 18 = .ok (.aload_n 0, 1) := by decide +kernel
theorem dX4_slackOf_19 : decode cX4_slackOf 19 = .ok (.aload_n 0, 1) := by decide +kernel
theorem dX4_slackOf_20 : decode cX4_slackOf 20 = .ok (.iload_n 1, 1) := by decide +kernel
theorem dX4_slackOf_21 : decode cX4_slackOf 21 = .ok (.iconst 0, 1) := by decide +kernel
theorem dX4_slackOf_22 : decode cX4_slackOf 22 = .ok (.invokevirtual 54, 3) := by decide +kernel
theorem dX4_slackOf_25 : decode cX4_slackOf 25 = .ok (.iconst 0, 1) := by decide +kernel
theorem dX4_slackOf_26 : decode cX4_slackOf 26 = .ok (.invokevirtual 50, 3) := by decide +kernel
theorem dX4_slackOf_29 : decode cX4_slackOf 29 = .ok (.isub, 1) := by decide +kernel
theorem dX4_slackOf_30 : decode cX4_slackOf 30 = .ok (.ireturn, 1) := by decide +kernel
theorem dX4_isBroken_0 : decode cX4_isBroken 0 = .ok (.aload_n 0, 1) := by decide +kernel
theorem dX4_isBroken_1 : decode cX4_isBroken 1 = .ok (.iload_n 1, 1) := by decide +kernel
theorem dX4_isBroken_2 : decode cX4_isBroken 2 = .ok (.invokevirtual 57, 3) := by decide +kernel
theorem dX4_isBroken_5 : decode cX4_isBroken 5 = .ok (.ifCond .eq 15, 3) := by decide +kernel
theorem dX4_isBroken_8 : decode cX4_isBroken 8 = .ok (.aload_n 0, 1) := by decide +kernel
theorem dX4_isBroken_9 : decode cX4_isBroken 9 = .ok (.iload_n 1, 1) := by decide +kernel
theorem dX4_isBroken_10 : decode cX4_isBroken 10 = .ok (.invokevirtual 61, 3) := by decide +kernel
theorem dX4_isBroken_13 : decode cX4_isBroken 13 = .ok (.ifCond .ge 7, 3) := by decide +kernel
theorem dX4_isBroken_16 : decode cX4_isBroken 16 = .ok (.iconst 1, 1) := by decide +kernel
theorem dX4_isBroken_17 : decode cX4_isBroken 17 = .ok (.goto 4, 3) := by decide +kernel
theorem dX4_isBroken_20 : decode cX4_isBroken 20 = .ok (.iconst 0, 1) := by decide +kernel
theorem dX4_isBroken_21 : decode cX4_isBroken 21 = .ok (.ireturn, 1) := by decide +kernel
theorem dX4_brokenOnes_0 : decode cX4_brokenOnes 0 = .ok (.iconst 0, 1) := by decide +kernel
theorem dX4_brokenOnes_1 : decode cX4_brokenOnes 1 = .ok (.istore_n 1, 1) := by decide +kernel
theorem dX4_brokenOnes_2 : decode cX4_brokenOnes 2 = .ok (.iconst 0, 1) := by decide +kernel
theorem dX4_brokenOnes_3 : decode cX4_brokenOnes 3 = .ok (.istore_n 2, 1) := by decide +kernel
theorem dX4_brokenOnes_4 : decode cX4_brokenOnes 4 = .ok (.iload_n 2, 1) := by decide +kernel
theorem dX4_brokenOnes_5 : decode cX4_brokenOnes 5 = .ok (.aload_n 0, 1) := by decide +kernel
theorem dX4_brokenOnes_6 : decode cX4_brokenOnes 6 = .ok (.getfield 7, 3) := by decide +kernel
theorem dX4_brokenOnes_9 : decode cX4_brokenOnes 9 = .ok (.iconst 2, 1) := by decide +kernel
theorem dX4_brokenOnes_10 : decode cX4_brokenOnes 10 = .ok (.iaload, 1) := by decide +kernel
theorem dX4_brokenOnes_11 : decode cX4_brokenOnes 11 = .ok (.if_icmp .ge 25, 3) := by decide +kernel
theorem dX4_brokenOnes_14 : decode cX4_brokenOnes 14 = .ok (.iload_n 1, 1) := by decide +kernel
theorem dX4_brokenOnes_15 : decode cX4_brokenOnes 15 = .ok (.aload_n 0, 1) := by decide +kernel
theorem dX4_brokenOnes_16 : decode cX4_brokenOnes 16 = .ok (.iload_n 2, 1) := by decide +kernel
theorem dX4_brokenOnes_17 : decode cX4_brokenOnes 17 = .ok (.invokevirtual 65, 3) := by decide +kernel
theorem dX4_brokenOnes_20 : decode cX4_brokenOnes 20 = .ok (.ifCond .eq 7, 3) := by decide +kernel
theorem dX4_brokenOnes_23 : decode cX4_brokenOnes 23 = .ok (.iconst 1, 1) := by decide +kernel
theorem dX4_brokenOnes_24 : decode cX4_brokenOnes 24 = .ok (.goto 4, 3) := by decide +kernel
theorem dX4_brokenOnes_27 : decode cX4_brokenOnes 27 = .ok (.iconst 0, 1) := by decide +kernel
theorem dX4_brokenOnes_28 : decode cX4_brokenOnes 28 = .ok (.iadd, 1) := by decide +kernel
theorem dX4_brokenOnes_29 : decode cX4_brokenOnes 29 = .ok (.istore_n 1, 1) := by decide +kernel
theorem dX4_brokenOnes_30 : decode cX4_brokenOnes 30 = .ok (.iinc 2 1, 3) := by decide +kernel
theorem dX4_brokenOnes_33 : decode cX4_brokenOnes 33 = .ok (.goto (-29), 3) := by decide +kernel
theorem dX4_brokenOnes_36 : decode cX4_brokenOnes 36 = .ok (.iload_n 1, 1) := by decide +kernel
theorem dX4_brokenOnes_37 : decode cX4_brokenOnes 37 = .ok (.ireturn, 1) := by decide +kernel
theorem dX4_inForce_0 : decode cX4_inForce 0 = .ok (.iconst 0, 1) := by decide +kernel
theorem dX4_inForce_1 : decode cX4_inForce 1 = .ok (.istore_n 1, 1) := by decide +kernel
theorem dX4_inForce_2 : decode cX4_inForce 2 = .ok (.iconst 0, 1) := by decide +kernel
theorem dX4_inForce_3 : decode cX4_inForce 3 = .ok (.istore_n 2, 1) := by decide +kernel
theorem dX4_inForce_4 : decode cX4_inForce 4 = .ok (.iload_n 2, 1) := by decide +kernel
theorem dX4_inForce_5 : decode cX4_inForce 5 = .ok (.aload_n 0, 1) := by decide +kernel
theorem dX4_inForce_6 : decode cX4_inForce 6 = .ok (.getfield 7, 3) := by decide +kernel
theorem dX4_inForce_9 : decode cX4_inForce 9 = .ok (.iconst 2, 1) := by decide +kernel
theorem dX4_inForce_10 : decode cX4_inForce 10 = .ok (.iaload, 1) := by decide +kernel
theorem dX4_inForce_11 : decode cX4_inForce 11 = .ok (.if_icmp .ge 25, 3) := by decide +kernel
theorem dX4_inForce_14 : decode cX4_inForce 14 = .ok (.iload_n 1, 1) := by decide +kernel
theorem dX4_inForce_15 : decode cX4_inForce 15 = .ok (.aload_n 0, 1) := by decide +kernel
theorem dX4_inForce_16 : decode cX4_inForce 16 = .ok (.iload_n 2, 1) := by decide +kernel
theorem dX4_inForce_17 : decode cX4_inForce 17 = .ok (.invokevirtual 57, 3) := by decide +kernel
theorem dX4_inForce_20 : decode cX4_inForce 20 = .ok (.ifCond .eq 7, 3) := by decide +kernel
theorem dX4_inForce_23 : decode cX4_inForce 23 = .ok (.iconst 1, 1) := by decide +kernel
theorem dX4_inForce_24 : decode cX4_inForce 24 = .ok (.goto 4, 3) := by decide +kernel
theorem dX4_inForce_27 : decode cX4_inForce 27 = .ok (.iconst 0, 1) := by decide +kernel
theorem dX4_inForce_28 : decode cX4_inForce 28 = .ok (.iadd, 1) := by decide +kernel
theorem dX4_inForce_29 : decode cX4_inForce 29 = .ok (.istore_n 1, 1) := by decide +kernel
theorem dX4_inForce_30 : decode cX4_inForce 30 = .ok (.iinc 2 1, 3) := by decide +kernel
theorem dX4_inForce_33 : decode cX4_inForce 33 = .ok (.goto (-29), 3) := by decide +kernel
theorem dX4_inForce_36 : decode cX4_inForce 36 = .ok (.iload_n 1, 1) := by decide +kernel
theorem dX4_inForce_37 : decode cX4_inForce 37 = .ok (.ireturn, 1) := by decide +kernel
theorem dX4_lowers_0 : decode cX4_lowers 0 = .ok (.aload_n 0, 1) := by decide +kernel
theorem dX4_lowers_1 : decode cX4_lowers 1 = .ok (.getfield 25, 3) := by decide +kernel
theorem dX4_lowers_4 : decode cX4_lowers 4 = .ok (.iload_n 1, 1) := by decide +kernel
theorem dX4_lowers_5 : decode cX4_lowers 5 = .ok (.iaload, 1) := by decide +kernel
theorem dX4_lowers_6 : decode cX4_lowers 6 = .ok (.aload_n 0, 1) := by decide +kernel
theorem dX4_lowers_7 : decode cX4_lowers 7 = .ok (.getfield 25, 3) := by decide +kernel
theorem dX4_lowers_10 : decode cX4_lowers 10 = .ok (.iload_n 2, 1) := by decide +kernel
theorem dX4_lowers_11 : decode cX4_lowers 11 = .ok (.iaload, 1) := by decide +kernel
theorem dX4_lowers_12 : decode cX4_lowers 12 = .ok (.iload_n 3, 1) := by decide +kernel
theorem dX4_lowers_13 : decode cX4_lowers 13 = .ok (.iadd, 1) := by decide +kernel
theorem dX4_lowers_14 : decode cX4_lowers 14 = .ok (.if_icmp .le 7, 3) := by decide +kernel
theorem dX4_lowers_17 : decode cX4_lowers 17 = .ok (.iconst 1, 1) := by decide +kernel
theorem dX4_lowers_18 : decode cX4_lowers 18 = .ok (.goto 4, 3) := by decide +kernel
theorem dX4_lowers_21 : decode cX4_lowers 21 = .ok (.iconst 0, 1) := by decide +kernel
theorem dX4_lowers_22 : decode cX4_lowers 22 = .ok (.istore 4, 2) := by decide +kernel
theorem dX4_lowers_24 : decode cX4_lowers 24 = .ok (.aload_n 0, 1) := by decide +kernel
theorem dX4_lowers_25 : decode cX4_lowers 25 = .ok (.getfield 25, 3) := by decide +kernel
theorem dX4_lowers_28 : decode cX4_lowers 28 = .ok (.iload_n 1, 1) := by decide +kernel
theorem dX4_lowers_29 : decode cX4_lowers 29 = .ok (.iload 4, 2) := by decide +kernel
theorem dX4_lowers_31 : decode cX4_lowers 31 = .ok (.ifCond .eq 14, 3) := by decide +kernel
theorem dX4_lowers_34 : decode cX4_lowers 34 = .ok (.aload_n 0, 1) := by decide +kernel
theorem dX4_lowers_35 : decode cX4_lowers 35 = .ok (.getfield 25, 3) := by decide +kernel
theorem dX4_lowers_38 : decode cX4_lowers 38 = .ok (.iload_n 2, 1) := by decide +kernel
theorem dX4_lowers_39 : decode cX4_lowers 39 = .ok (.iaload, 1) := by decide +kernel
theorem dX4_lowers_40 : decode cX4_lowers 40 = .ok (.iload_n 3, 1) := by decide +kernel
theorem dX4_lowers_41 : decode cX4_lowers 41 = .ok (.iadd, 1) := by decide +kernel
theorem dX4_lowers_42 : decode cX4_lowers 42 = .ok (.goto 9, 3) := by decide +kernel
theorem dX4_lowers_45 : decode cX4_lowers 45 = .ok (.aload_n 0, 1) := by decide +kernel
theorem dX4_lowers_46 : decode cX4_lowers 46 = .ok (.getfield 25, 3) := by decide +kernel
theorem dX4_lowers_49 : decode cX4_lowers 49 = .ok (.iload_n 1, 1) := by decide +kernel
theorem dX4_lowers_50 : decode cX4_lowers 50 = .ok (.iaload, 1) := by decide +kernel
theorem dX4_lowers_51 : decode cX4_lowers 51 = .ok (.iastore, 1) := by decide +kernel
theorem dX4_lowers_52 : decode cX4_lowers 52 = .ok (.iload 4, 2) := by decide +kernel
theorem dX4_lowers_54 : decode cX4_lowers 54 = .ok (.ireturn, 1) := by decide +kernel
theorem dX4_areTall_0 : decode cX4_areTall 0 = .ok (.iconst 1, 1) := by decide +kernel
theorem dX4_areTall_1 : decode cX4_areTall 1 = .ok (.istore_n 1, 1) := by decide +kernel
theorem dX4_areTall_2 : decode cX4_areTall 2 = .ok (.iconst 0, 1) := by decide +kernel
theorem dX4_areTall_3 : decode cX4_areTall 3 = .ok (.istore_n 2, 1) := by decide +kernel
theorem dX4_areTall_4 : decode cX4_areTall 4 = .ok (.iload_n 2, 1) := by decide +kernel
theorem dX4_areTall_5 : decode cX4_areTall 5 = .ok (.bipush 8, 2) := by decide +kernel
theorem dX4_areTall_7 : decode cX4_areTall 7 = .ok (.if_icmp .ge 28, 3) := by decide +kernel
theorem dX4_areTall_10 : decode cX4_areTall 10 = .ok (.iload_n 1, 1) := by decide +kernel
theorem dX4_areTall_11 : decode cX4_areTall 11 = .ok (.ifCond .eq 16, 3) := by decide +kernel
theorem dX4_areTall_14 : decode cX4_areTall 14 = .ok (.aload_n 0, 1) := by decide +kernel
theorem dX4_areTall_15 : decode cX4_areTall 15 = .ok (.getfield 25, 3) := by decide +kernel
theorem dX4_areTall_18 : decode cX4_areTall 18 = .ok (.iload_n 2, 1) := by decide +kernel
theorem dX4_areTall_19 : decode cX4_areTall 19 = .ok (.iaload, 1) := by decide +kernel
theorem dX4_areTall_20 : decode cX4_areTall 20 = .ok (.ifCond .lt 7, 3) := by decide +kernel
theorem dX4_areTall_23 : decode cX4_areTall 23 = .ok (.iconst 1, 1) := by decide +kernel
theorem dX4_areTall_24 : decode cX4_areTall 24 = .ok (.goto 4, 3) := by decide +kernel
theorem dX4_areTall_27 : decode cX4_areTall 27 = .ok (.iconst 0, 1) := by decide +kernel
theorem dX4_areTall_28 : decode cX4_areTall 28 = .ok (.istore_n 1, 1) := by decide +kernel
theorem dX4_areTall_29 : decode cX4_areTall 29 = .ok (.iinc 2 1, 3) := by decide +kernel
theorem dX4_areTall_32 : decode cX4_areTall 32 = .ok (.goto (-28), 3) := by decide +kernel
theorem dX4_areTall_35 : decode cX4_areTall 35 = .ok (.iload_n 1, 1) := by decide +kernel
theorem dX4_areTall_36 : decode cX4_areTall 36 = .ok (.ireturn, 1) := by decide +kernel
theorem dX4_settles_0 : decode cX4_settles 0 = .ok (.iconst 1, 1) := by decide +kernel
theorem dX4_settles_1 : decode cX4_settles 1 = .ok (.istore_n 2, 1) := by decide +kernel
theorem dX4_settles_2 : decode cX4_settles 2 = .ok (.iload_n 2, 1) := by decide +kernel
theorem dX4_settles_3 : decode cX4_settles 3 = .ok (.ifCond .eq 92, 3) := by decide +kernel
theorem dX4_settles_6 : decode cX4_settles 6 = .ok (.aload_n 0, 1) := by decide +kernel
theorem dX4_settles_7 : decode cX4_settles 7 = .ok (.invokevirtual 68, 3) := by decide +kernel
theorem dX4_settles_10 : decode cX4_settles 10 = .ok (.ifCond .eq 85, 3) := by decide +kernel
theorem dX4_settles_13 : decode cX4_settles 13 = .ok (.iconst 0, 1) := by decide +kernel
theorem dX4_settles_14 : decode cX4_settles 14 = .ok (.istore_n 2, 1) := by decide +kernel
theorem dX4_settles_15 : decode cX4_settles 15 = .ok (.iconst 0, 1) := by decide +kernel
theorem dX4_settles_16 : decode cX4_settles 16 = .ok (.istore_n 3, 1) := by decide +kernel
theorem dX4_settles_17 : decode cX4_settles 17 = .ok (.iload_n 3, 1) := by decide +kernel
theorem dX4_settles_18 : decode cX4_settles 18 = .ok (.aload_n 0, 1) := by decide +kernel
theorem dX4_settles_19 : decode cX4_settles 19 = .ok (.getfield 7, 3) := by decide +kernel
theorem dX4_settles_22 : decode cX4_settles 22 = .ok (.iconst 2, 1) := by decide +kernel
theorem dX4_settles_23 : decode cX4_settles 23 = .ok (.iaload, 1) := by decide +kernel
theorem dX4_settles_24 : decode cX4_settles 24 = .ok (.if_icmp .ge 68, 3) := by decide +kernel
theorem dX4_settles_27 : decode cX4_settles 27 = .ok (.iload_n 1, 1) := by decide +kernel
theorem dX4_settles_28 : decode cX4_settles 28 = .ok (.ifCond .ne 11, 3) := by decide +kernel
theorem dX4_settles_31 : decode cX4_settles 31 = .ok (.aload_n 0, 1) := by decide +kernel
theorem dX4_settles_32 : decode cX4_settles 32 = .ok (.iload_n 3, 1) := by decide +kernel
theorem dX4_settles_33 : decode cX4_settles 33 = .ok (.invokevirtual 57, 3) := by decide +kernel
theorem dX4_settles_36 : decode cX4_settles 36 = .ok (.ifCond .eq 32, 3) := by decide +kernel
theorem dX4_settles_39 : decode cX4_settles 39 = .ok (.aload_n 0, 1) := by decide +kernel
theorem dX4_settles_40 : decode cX4_settles 40 = .ok (.aload_n 0, 1) := by decide +kernel
theorem dX4_settles_41 : decode cX4_settles 41 = .ok (.iload_n 3, 1) := by decide +kernel
theorem dX4_settles_42 : decode cX4_settles 42 = .ok (.iconst 0, 1) := by decide +kernel
theorem dX4_settles_43 : decode cX4_settles 43 = .ok (.invokevirtual 54, 3) := by decide +kernel
theorem dX4_settles_46 : decode cX4_settles 46 = .ok (.aload_n 0, 1) := by decide +kernel
theorem dX4_settles_47 : decode cX4_settles 47 = .ok (.iload_n 3, 1) := by decide +kernel
theorem dX4_settles_48 : decode cX4_settles 48 = .ok (.iconst 1, 1) := by decide +kernel
theorem dX4_settles_49 : decode cX4_settles 49 = .ok (.invokevirtual 54, 3) := by decide +kernel
theorem dX4_settles_52 : decode cX4_settles 52 = .ok (.aload_n 0, 1) := by decide +kernel
theorem dX4_settles_53 : decode cX4_settles 53 = .ok (.iload_n 3, 1) := by decide +kernel
theorem dX4_settles_54 : decode cX4_settles 54 = .ok (.iconst 2, 1) := by decide +kernel
theorem dX4_settles_55 : decode cX4_settles 55 = .ok (.invokevirtual 54, 3) := by decide +kernel
theorem dX4_settles_58 : decode cX4_settles 58 = .ok (.invokevirtual 72, 3) := by decide +kernel
theorem dX4_settles_61 : decode cX4_settles 61 = .ok (.ifCond .eq 7, 3) := by decide +kernel
theorem dX4_settles_64 : decode cX4_settles 64 = .ok (.iconst 1, 1) := by decide +kernel
theorem dX4_settles_65 : decode cX4_settles 65 = .ok (.goto 4, 3) := by decide +kernel
theorem dX4_settles_68 : decode cX4_settles 68 = .ok (.iconst 0, 1) := by decide +kernel
theorem dX4_settles_69 : decode cX4_settles 69 = .ok (.istore 4, 2) := by decide +kernel
theorem dX4_settles_71 : decode cX4_settles 71 = .ok (.iload_n 2, 1) := by decide +kernel
theorem dX4_settles_72 : decode cX4_settles 72 = .ok (.ifCond .ne 8, 3) := by decide +kernel
theorem dX4_settles_75 : decode cX4_settles 75 = .ok (.iload 4, 2) := by decide +kernel
theorem dX4_settles_77 : decode cX4_settles 77 = .ok (.ifCond .eq 7, 3) := by decide +kernel
theorem dX4_settles_80 : decode cX4_settles 80 = .ok (.iconst 1, 1) := by decide +kernel
theorem dX4_settles_81 : decode cX4_settles 81 = .ok (.goto 4, 3) := by decide +kernel
theorem dX4_settles_84 : decode cX4_settles 84 = .ok (.iconst 0, 1) := by decide +kernel
theorem dX4_settles_85 : decode cX4_settles 85 = .ok (.istore_n 2, 1) := by decide +kernel
theorem dX4_settles_86 : decode cX4_settles 86 = .ok (.iinc 3 1, 3) := by decide +kernel
theorem dX4_settles_89 : decode cX4_settles 89 = .ok (.goto (-72), 3) := by decide +kernel
theorem dX4_settles_92 : decode cX4_settles 92 = .ok (.goto (-90), 3) := by decide +kernel
theorem dX4_settles_95 : decode cX4_settles 95 = .ok (.aload_n 0, 1) := by decide +kernel
theorem dX4_settles_96 : decode cX4_settles 96 = .ok (.invokevirtual 68, 3) := by decide +kernel
theorem dX4_settles_99 : decode cX4_settles 99 = .ok (.ireturn, 1) := by decide +kernel
theorem dX4_isPossible_0 : decode cX4_isPossible 0 = .ok (.iconst 0, 1) := by decide +kernel
theorem dX4_isPossible_1 : decode cX4_isPossible 1 = .ok (.istore 4, 2) := by decide +kernel
theorem dX4_isPossible_3 : decode cX4_isPossible 3 = .ok (.iload 4, 2) := by decide +kernel
theorem dX4_isPossible_5 : decode cX4_isPossible 5 = .ok (.bipush 8, 2) := by decide +kernel
theorem dX4_isPossible_7 : decode cX4_isPossible 7 = .ok (.if_icmp .ge 18, 3) := by decide +kernel
theorem dX4_isPossible_10 : decode cX4_isPossible 10 = .ok (.aload_n 0, 1) := by decide +kernel
theorem dX4_isPossible_11 : decode cX4_isPossible 11 = .ok (.getfield 25, 3) := by decide +kernel
theorem dX4_isPossible_14 : decode cX4_isPossible 14 = .ok (.iload 4, 2) := by decide +kernel
theorem dX4_isPossible_16 : decode cX4_isPossible 16 = .ok (.bipush 99, 2) := by decide +kernel
theorem dX4_isPossible_18 : decode cX4_isPossible 18 = .ok (.iastore, 1) := by decide +kernel
theorem dX4_isPossible_19 : decode cX4_isPossible 19 = .ok (.iinc 4 1, 3) := by decide +kernel
theorem dX4_isPossible_22 : decode cX4_isPossible 22 = .ok (.goto (-19), 3) := by decide +kernel
theorem dX4_isPossible_25 : decode cX4_isPossible 25 = .ok (.aload_n 0, 1) := by decide +kernel
theorem dX4_isPossible_26 : decode cX4_isPossible 26 = .ok (.iconst 1, 1) := by decide +kernel
theorem dX4_isPossible_27 : decode cX4_isPossible 27 = .ok (.invokevirtual 75, 3) := by decide +kernel
theorem dX4_isPossible_30 : decode cX4_isPossible 30 = .ok (.istore 4, 2) := by decide +kernel
theorem dX4_isPossible_32 : decode cX4_isPossible 32 = .ok (.iload 4, 2) := by decide +kernel
theorem dX4_isPossible_34 : decode cX4_isPossible 34 = .ok (.ifCond .eq 23, 3) := by decide +kernel
theorem dX4_isPossible_37 : decode cX4_isPossible 37 = .ok (.aload_n 0, 1) := by decide +kernel
theorem dX4_isPossible_38 : decode cX4_isPossible 38 = .ok (.iload_n 1, 1) := by decide +kernel
theorem dX4_isPossible_39 : decode cX4_isPossible 39 = .ok (.iload_n 2, 1) := by decide +kernel
theorem dX4_isPossible_40 : decode cX4_isPossible 40 = .ok (.iload_n 3, 1) := by decide +kernel
theorem dX4_isPossible_41 : decode cX4_isPossible 41 = .ok (.invokevirtual 72, 3) := by decide +kernel
theorem dX4_isPossible_44 : decode cX4_isPossible 44 = .ok (.ifCond .eq 13, 3) := by decide +kernel
theorem dX4_isPossible_47 : decode cX4_isPossible 47 = .ok (.aload_n 0, 1) := by decide +kernel
theorem dX4_isPossible_48 : decode cX4_isPossible 48 = .ok (.iconst 1, 1) := by decide +kernel
theorem dX4_isPossible_49 : decode cX4_isPossible 49 = .ok (.invokevirtual 75, 3) := by decide +kernel
theorem dX4_isPossible_52 : decode cX4_isPossible 52 = .ok (.istore 4, 2) := by decide +kernel
theorem dX4_isPossible_54 : decode cX4_isPossible 54 = .ok (.goto (-22), 3) := by decide +kernel
theorem dX4_isPossible_57 : decode cX4_isPossible 57 = .ok (.iload 4, 2) := by decide +kernel
theorem dX4_isPossible_59 : decode cX4_isPossible 59 = .ok (.ireturn, 1) := by decide +kernel
theorem dX4_hasLeast_0 : decode cX4_hasLeast 0 = .ok (.iconst 0, 1) := by decide +kernel
theorem dX4_hasLeast_1 : decode cX4_hasLeast 1 = .ok (.istore_n 1, 1) := by decide +kernel
theorem dX4_hasLeast_2 : decode cX4_hasLeast 2 = .ok (.iload_n 1, 1) := by decide +kernel
theorem dX4_hasLeast_3 : decode cX4_hasLeast 3 = .ok (.bipush 8, 2) := by decide +kernel
theorem dX4_hasLeast_5 : decode cX4_hasLeast 5 = .ok (.if_icmp .ge 21, 3) := by decide +kernel
theorem dX4_hasLeast_8 : decode cX4_hasLeast 8 = .ok (.aload_n 0, 1) := by decide +kernel
theorem dX4_hasLeast_9 : decode cX4_hasLeast 9 = .ok (.getfield 25, 3) := by decide +kernel
theorem dX4_hasLeast_12 : decode cX4_hasLeast 12 = .ok (.iload_n 1, 1) := by decide +kernel
theorem dX4_hasLeast_13 : decode cX4_hasLeast 13 = .ok (.aload_n 0, 1) := by decide +kernel
theorem dX4_hasLeast_14 : decode cX4_hasLeast 14 = .ok (.iload_n 1, 1) := by decide +kernel
theorem dX4_hasLeast_15 : decode cX4_hasLeast 15 = .ok (.iconst 0, 1) := by decide +kernel
theorem dX4_hasLeast_16 : decode cX4_hasLeast 16 = .ok (.invokevirtual 50, 3) := by decide +kernel
theorem dX4_hasLeast_19 : decode cX4_hasLeast 19 = .ok (.iastore, 1) := by decide +kernel
theorem dX4_hasLeast_20 : decode cX4_hasLeast 20 = .ok (.iinc 1 1, 3) := by decide +kernel
theorem dX4_hasLeast_23 : decode cX4_hasLeast 23 = .ok (.goto (-21), 3) := by decide +kernel
theorem dX4_hasLeast_26 : decode cX4_hasLeast 26 = .ok (.aload_n 0, 1) := by decide +kernel
theorem dX4_hasLeast_27 : decode cX4_hasLeast 27 = .ok (.iconst 0, 1) := by decide +kernel
theorem dX4_hasLeast_28 : decode cX4_hasLeast 28 = .ok (.invokevirtual 75, 3) := by decide +kernel
theorem dX4_hasLeast_31 : decode cX4_hasLeast 31 = .ok (.ireturn, 1) := by decide +kernel
theorem dX4_boundBut_0 : decode cX4_boundBut 0 = .ok (.iconst 0, 1) := by decide +kernel
theorem dX4_boundBut_1 : decode cX4_boundBut 1 = .ok (.istore 4, 2) := by decide +kernel
theorem dX4_boundBut_3 : decode cX4_boundBut 3 = .ok (.iload 4, 2) := by decide +kernel
theorem dX4_boundBut_5 : decode cX4_boundBut 5 = .ok (.bipush 8, 2) := by decide +kernel
theorem dX4_boundBut_7 : decode cX4_boundBut 7 = .ok (.if_icmp .ge 28, 3) := by decide +kernel
theorem dX4_boundBut_10 : decode cX4_boundBut 10 = .ok (.aload_n 0, 1) := by decide +kernel
theorem dX4_boundBut_11 : decode cX4_boundBut 11 = .ok (.getfield 28, 3) := by decide +kernel
theorem dX4_boundBut_14 : decode cX4_boundBut 14 = .ok (.iload 4, 2) := by decide +kernel
theorem dX4_boundBut_16 : decode cX4_boundBut 16 = .ok (.iload 4, 2) := by decide +kernel
theorem dX4_boundBut_18 : decode cX4_boundBut 18 = .ok (.iload_n 1, 1) := by decide +kernel
theorem dX4_boundBut_19 : decode cX4_boundBut 19 = .ok (.if_icmp .ne 7, 3) := by decide +kernel
theorem dX4_boundBut_22 : decode cX4_boundBut 22 = .ok (.iconst 0, 1) := by decide +kernel
theorem dX4_boundBut_23 : decode cX4_boundBut 23 = .ok (.goto 5, 3) := by decide +kernel
theorem dX4_boundBut_26 : decode cX4_boundBut 26 = .ok (.ldc 79, 2) := by decide +kernel
theorem dX4_boundBut_28 : decode cX4_boundBut 28 = .ok (.iastore, 1) := by decide +kernel
theorem dX4_boundBut_29 : decode cX4_boundBut 29 = .ok (.iinc 4 1, 3) := by decide +kernel
theorem dX4_boundBut_32 : decode cX4_boundBut 32 = .ok (.goto (-29), 3) := by decide +kernel
theorem dX4_boundBut_35 : decode cX4_boundBut 35 = .ok (.iconst 1, 1) := by decide +kernel
theorem dX4_boundBut_36 : decode cX4_boundBut 36 = .ok (.istore 4, 2) := by decide +kernel
theorem dX4_boundBut_38 : decode cX4_boundBut 38 = .ok (.iload 4, 2) := by decide +kernel
theorem dX4_boundBut_40 : decode cX4_boundBut 40 = .ok (.ifCond .eq 150, 3) := by decide +kernel
theorem dX4_boundBut_43 : decode cX4_boundBut 43 = .ok (.iconst 0, 1) := by decide +kernel
theorem dX4_boundBut_44 : decode cX4_boundBut 44 = .ok (.istore 4, 2) := by decide +kernel
theorem dX4_boundBut_46 : decode cX4_boundBut 46 = .ok (.iconst 0, 1) := by decide +kernel
theorem dX4_boundBut_47 : decode cX4_boundBut 47 = .ok (.istore 5, 2) := by decide +kernel
theorem dX4_boundBut_49 : decode cX4_boundBut 49 = .ok (.iload 5, 2) := by decide +kernel
theorem dX4_boundBut_51 : decode cX4_boundBut 51 = .ok (.aload_n 0, 1) := by decide +kernel
theorem dX4_boundBut_52 : decode cX4_boundBut 52 = .ok (.getfield 7, 3) := by decide +kernel
theorem dX4_boundBut_55 : decode cX4_boundBut 55 = .ok (.iconst 2, 1) := by decide +kernel
theorem dX4_boundBut_56 : decode cX4_boundBut 56 = .ok (.iaload, 1) := by decide +kernel
theorem dX4_boundBut_57 : decode cX4_boundBut 57 = .ok (.if_icmp .ge 130, 3) := by decide +kernel
theorem dX4_boundBut_60 : decode cX4_boundBut 60 = .ok (.aload_n 0, 1) := by decide +kernel
theorem dX4_boundBut_61 : decode cX4_boundBut 61 = .ok (.getfield 28, 3) := by decide +kernel
theorem dX4_boundBut_64 : decode cX4_boundBut 64 = .ok (.aload_n 0, 1) := by decide +kernel
theorem dX4_boundBut_65 : decode cX4_boundBut 65 = .ok (.iload 5, 2) := by decide +kernel
theorem dX4_boundBut_67 : decode cX4_boundBut 67 = .ok (.iconst 0, 1) := by decide +kernel
theorem dX4_boundBut_68 : decode cX4_boundBut 68 = .ok (.invokevirtual 54, 3) := by decide +kernel
theorem dX4_boundBut_71 : decode cX4_boundBut 71 = .ok (.iaload, 1) := by decide +kernel
theorem dX4_boundBut_72 : decode cX4_boundBut 72 = .ok (.istore 6, 2) := by decide +kernel
theorem dX4_boundBut_74 : decode cX4_boundBut 74 = .ok (.aload_n 0, 1) := by decide +kernel
theorem dX4_boundBut_75 : decode cX4_boundBut 75 = .ok (.iload 5, 2) := by decide +kernel
theorem dX4_boundBut_77 : decode cX4_boundBut 77 = .ok (.iconst 1, 1) := by decide +kernel
theorem dX4_boundBut_78 : decode cX4_boundBut 78 = .ok (.invokevirtual 54, 3) := by decide +kernel
theorem dX4_boundBut_81 : decode cX4_boundBut 81 = .ok (.istore 7, 2) := by decide +kernel
theorem dX4_boundBut_83 : decode cX4_boundBut 83 = .ok (.iload 5, 2) := by decide +kernel
theorem dX4_boundBut_85 : decode cX4_boundBut 85 = .ok (.iload_n 3, 1) := by decide +kernel
theorem dX4_boundBut_86 : decode cX4_boundBut 86 = .ok (.if_icmp .eq 43, 3) := by decide +kernel
theorem dX4_boundBut_89 : decode cX4_boundBut 89 = .ok (.aload_n 0, 1) := by decide +kernel
theorem dX4_boundBut_90 : decode cX4_boundBut 90 = .ok (.iload 5, 2) := by decide +kernel
theorem dX4_boundBut_92 : decode cX4_boundBut 92 = .ok (.invokevirtual 57, 3) := by decide +kernel
theorem dX4_boundBut_95 : decode cX4_boundBut 95 = .ok (.ifCond .eq 34, 3) := by decide +kernel
theorem dX4_boundBut_98 : decode cX4_boundBut 98 = .ok (.iload 6, 2) := by decide +kernel
theorem dX4_boundBut_100 : decode cX4_boundBut 100 = .ok (.ldc 79, 2) := by decide +kernel
theorem dX4_boundBut_102 : decode cX4_boundBut 102 = .ok (.if_icmp .ge 27, 3) := by decide +kernel
theorem dX4_boundBut_105 : decode cX4_boundBut 105 = .ok (.iload 6, 2) := by decide +kernel
theorem dX4_boundBut_107 : decode cX4_boundBut 107 = .ok (.aload_n 0, 1) := by decide +kernel
theorem dX4_boundBut_108 : decode cX4_boundBut 108 = .ok (.iload 5, 2) := by decide +kernel
theorem dX4_boundBut_110 : decode cX4_boundBut 110 = .ok (.iconst 2, 1) := by decide +kernel
theorem dX4_boundBut_111 : decode cX4_boundBut 111 = .ok (.invokevirtual 54, 3) := by decide +kernel
theorem dX4_boundBut_114 : decode cX4_boundBut 114 = .ok (.iadd, 1) := by decide +kernel
theorem dX4_boundBut_115 : decode cX4_boundBut 115 = .ok (.aload_n 0, 1) := by decide +kernel
theorem dX4_boundBut_116 : decode cX4_boundBut 116 = .ok (.getfield 28, 3) := by decide +kernel
theorem dX4_boundBut_119 : decode cX4_boundBut 119 = .ok (.iload 7, 2) := by decide +kernel
theorem dX4_boundBut_121 : decode cX4_boundBut 121 = .ok (.iaload, 1) := by decide +kernel
theorem dX4_boundBut_122 : decode cX4_boundBut 122 = .ok (.if_icmp .ge 7, 3) := by decide +kernel
theorem dX4_boundBut_125 : decode cX4_boundBut 125 = .ok (.iconst 1, 1) := by decide +kernel
theorem dX4_boundBut_126 : decode cX4_boundBut 126 = .ok (.goto 4, 3) := by decide +kernel
theorem dX4_boundBut_129 : decode cX4_boundBut 129 = .ok (.iconst 0, 1) := by decide +kernel
theorem dX4_boundBut_130 : decode cX4_boundBut 130 = .ok (.istore 8, 2) := by decide +kernel
theorem dX4_boundBut_132 : decode cX4_boundBut 132 = .ok (.aload_n 0, 1) := by decide +kernel
theorem dX4_boundBut_133 : decode cX4_boundBut 133 = .ok (.getfield 28, 3) := by decide +kernel
theorem dX4_boundBut_136 : decode cX4_boundBut 136 = .ok (.iload 7, 2) := by decide +kernel
theorem dX4_boundBut_138 : decode cX4_boundBut 138 = .ok (.iload 8, 2) := by decide +kernel
theorem dX4_boundBut_140 : decode cX4_boundBut 140 = .ok (.ifCond .eq 16, 3) := by decide +kernel
theorem dX4_boundBut_143 : decode cX4_boundBut 143 = .ok (.iload 6, 2) := by decide +kernel
theorem dX4_boundBut_145 : decode cX4_boundBut 145 = .ok (.aload_n 0, 1) := by decide +kernel
theorem dX4_boundBut_146 : decode cX4_boundBut 146 = .ok (.iload 5, 2) := by decide +kernel
theorem dX4_boundBut_148 : decode cX4_boundBut 148 = .ok (.iconst 2, 1) := by decide +kernel
theorem dX4_boundBut_149 : decode cX4_boundBut 149 = .ok (.invokevirtual 54, 3) := by decide +kernel
theorem dX4_boundBut_152 : decode cX4_boundBut 152 = .ok (.iadd, 1) := by decide +kernel
theorem dX4_boundBut_153 : decode cX4_boundBut 153 = .ok (.goto 10, 3) := by decide +kernel
theorem dX4_boundBut_156 : decode cX4_boundBut 156 = .ok (.aload_n 0, 1) := by decide +kernel
theorem dX4_boundBut_157 : decode cX4_boundBut 157 = .ok (.getfield 28, 3) := by decide +kernel
theorem dX4_boundBut_160 : decode cX4_boundBut 160 = .ok (.iload 7, 2) := by decide +kernel
theorem dX4_boundBut_162 : decode cX4_boundBut 162 = .ok (.iaload, 1) := by decide +kernel
theorem dX4_boundBut_163 : decode cX4_boundBut 163 = .ok (.iastore, 1) := by decide +kernel
theorem dX4_boundBut_164 : decode cX4_boundBut 164 = .ok (.iload 4, 2) := by decide +kernel
theorem dX4_boundBut_166 : decode cX4_boundBut 166 = .ok (.ifCond .ne 8, 3) := by decide +kernel
theorem dX4_boundBut_169 : decode cX4_boundBut 169 = .ok (.iload 8, 2) := by decide +kernel
theorem dX4_boundBut_171 : decode cX4_boundBut 171 = .ok (.ifCond .eq 7, 3) := by decide +kernel
theorem dX4_boundBut_174 : decode cX4_boundBut 174 = .ok (.iconst 1, 1) := by decide +kernel
theorem dX4_boundBut_175 : decode cX4_boundBut 175 = .ok (.goto 4, 3) := by decide +kernel
theorem dX4_boundBut_178 : decode cX4_boundBut 178 = .ok (.iconst 0, 1) := by decide +kernel
theorem dX4_boundBut_179 : decode cX4_boundBut 179 = .ok (.istore 4, 2) := by decide +kernel
theorem dX4_boundBut_181 : decode cX4_boundBut 181 = .ok (.iinc 5 1, 3) := by decide +kernel
theorem dX4_boundBut_184 : decode cX4_boundBut 184 = .ok (.goto (-135), 3) := by decide +kernel
theorem dX4_boundBut_187 : decode cX4_boundBut 187 = .ok (.goto (-149), 3) := by decide +kernel
theorem dX4_boundBut_190 : decode cX4_boundBut 190 = .ok (.aload_n 0, 1) := by decide +kernel
theorem dX4_boundBut_191 : decode cX4_boundBut 191 = .ok (.getfield 28, 3) := by decide +kernel
theorem dX4_boundBut_194 : decode cX4_boundBut 194 = .ok (.iload_n 2, 1) := by decide +kernel
theorem dX4_boundBut_195 : decode cX4_boundBut 195 = .ok (.iaload, 1) := by decide +kernel
theorem dX4_boundBut_196 : decode cX4_boundBut 196 = .ok (.ireturn, 1) := by decide +kernel
theorem dX4_reasonToSign_0 : decode cX4_reasonToSign 0 = .ok (.aload_n 0, 1) := by decide +kernel
theorem dX4_reasonToSign_1 : decode cX4_reasonToSign 1 = .ok (.iload_n 1, 1) := by decide +kernel
theorem dX4_reasonToSign_2 : decode cX4_reasonToSign 2 = .ok (.iload_n 2, 1) := by decide +kernel
theorem dX4_reasonToSign_3 : decode cX4_reasonToSign 3 = .ok (.iload_n 3, 1) := by decide +kernel
theorem dX4_reasonToSign_4 : decode cX4_reasonToSign 4 = .ok (.invokevirtual 80, 3) := by decide +kernel
theorem dX4_reasonToSign_7 : decode cX4_reasonToSign 7 = .ok (.ifCond .ne 7, 3) := by decide +kernel
theorem dX4_reasonToSign_10 : decode cX4_reasonToSign 10 = .ok (.iconst 1, 1) := by decide +kernel
theorem dX4_reasonToSign_11 : decode cX4_reasonToSign 11 = .ok (.goto 20, 3) := by decide +kernel
theorem dX4_reasonToSign_14 : decode cX4_reasonToSign 14 = .ok (.aload_n 0, 1) := by decide +kernel
theorem dX4_reasonToSign_15 : decode cX4_reasonToSign 15 = .ok (.iload_n 1, 1) := by decide +kernel
theorem dX4_reasonToSign_16 : decode cX4_reasonToSign 16 = .ok (.iload_n 2, 1) := by decide +kernel
theorem dX4_reasonToSign_17 : decode cX4_reasonToSign 17 = .ok (.bipush (-4), 2) := by decide +kernel
theorem dX4_reasonToSign_19 : decode cX4_reasonToSign 19 = .ok (.invokevirtual 83, 3) := by decide +kernel
theorem dX4_reasonToSign_22 : decode cX4_reasonToSign 22 = .ok (.iload_n 3, 1) := by decide +kernel
theorem dX4_reasonToSign_23 : decode cX4_reasonToSign 23 = .ok (.if_icmp .gt 7, 3) := by decide +kernel
theorem dX4_reasonToSign_26 : decode cX4_reasonToSign 26 = .ok (.iconst 2, 1) := by decide +kernel
theorem dX4_reasonToSign_27 : decode cX4_reasonToSign 27 = .ok (.goto 4, 3) := by decide +kernel
theorem dX4_reasonToSign_30 : decode cX4_reasonToSign 30 = .ok (.iconst 0, 1) := by decide +kernel
theorem dX4_reasonToSign_31 : decode cX4_reasonToSign 31 = .ok (.ireturn, 1) := by decide +kernel
theorem dX4_refuses_0 : decode cX4_refuses 0 = .ok (.aload_n 0, 1) := by decide +kernel
theorem dX4_refuses_1 : decode cX4_refuses 1 = .ok (.getfield 7, 3) := by decide +kernel
theorem dX4_refuses_4 : decode cX4_refuses 4 = .ok (.iconst 4, 1) := by decide +kernel
theorem dX4_refuses_5 : decode cX4_refuses 5 = .ok (.dup2, 1) := by decide +kernel
theorem dX4_refuses_6 : decode cX4_refuses 6 = .ok (.iaload, 1) := by decide +kernel
theorem dX4_refuses_7 : decode cX4_refuses 7 = .ok (.iconst 1, 1) := by decide +kernel
theorem dX4_refuses_8 : decode cX4_refuses 8 = .ok (.iadd, 1) := by decide +kernel
theorem dX4_refuses_9 : decode cX4_refuses 9 = .ok (.iastore, 1) := by decide +kernel
theorem dX4_refuses_10 : decode cX4_refuses 10 = .ok (.iload_n 1, 1) := by decide +kernel
theorem dX4_refuses_11 : decode cX4_refuses 11 = .ok (.ireturn, 1) := by decide +kernel
theorem dX4_isPair_0 : decode cX4_isPair 0 = .ok (.iload_n 0, 1) := by decide +kernel
theorem dX4_isPair_1 : decode cX4_isPair 1 = .ok (.invokestatic 87, 3) := by decide +kernel
theorem dX4_isPair_4 : decode cX4_isPair 4 = .ok (.ifCond .eq 19, 3) := by decide +kernel
theorem dX4_isPair_7 : decode cX4_isPair 7 = .ok (.iload_n 1, 1) := by decide +kernel
theorem dX4_isPair_8 : decode cX4_isPair 8 = .ok (.invokestatic 87, 3) := by decide +kernel
theorem dX4_isPair_11 : decode cX4_isPair 11 = .ok (.ifCond .eq 12, 3) := by decide +kernel
theorem dX4_isPair_14 : decode cX4_isPair 14 = .ok (.iload_n 0, 1) := by decide +kernel
theorem dX4_isPair_15 : decode cX4_isPair 15 = .ok (.iload_n 1, 1) := by decide +kernel
theorem dX4_isPair_16 : decode cX4_isPair 16 = .ok (.if_icmp .eq 7, 3) := by decide +kernel
theorem dX4_isPair_19 : decode cX4_isPair 19 = .ok (.iconst 1, 1) := by decide +kernel
theorem dX4_isPair_20 : decode cX4_isPair 20 = .ok (.goto 4, 3) := by decide +kernel
theorem dX4_isPair_23 : decode cX4_isPair 23 = .ok (.iconst 0, 1) := by decide +kernel
theorem dX4_isPair_24 : decode cX4_isPair 24 = .ok (.ireturn, 1) := by decide +kernel
theorem dX4_errorOfSign_0 : decode cX4_errorOfSign 0 = .ok (.iload_n 1, 1) := by decide +kernel
theorem dX4_errorOfSign_1 : decode cX4_errorOfSign 1 = .ok (.iload_n 2, 1) := by decide +kernel
theorem dX4_errorOfSign_2 : decode cX4_errorOfSign 2 = .ok (.invokestatic 90, 3) := by decide +kernel
theorem dX4_errorOfSign_5 : decode cX4_errorOfSign 5 = .ok (.ifCond .eq 14, 3) := by decide +kernel
theorem dX4_errorOfSign_8 : decode cX4_errorOfSign 8 = .ok (.iload_n 3, 1) := by decide +kernel
theorem dX4_errorOfSign_9 : decode cX4_errorOfSign 9 = .ok (.bipush (-30), 2) := by decide +kernel
theorem dX4_errorOfSign_11 : decode cX4_errorOfSign 11 = .ok (.bipush 60, 2) := by decide +kernel
theorem dX4_errorOfSign_13 : decode cX4_errorOfSign 13 = .ok (.invokestatic 46, 3) := by decide +kernel
theorem dX4_errorOfSign_16 : decode cX4_errorOfSign 16 = .ok (.ifCond .ne 5, 3) := by decide +kernel
theorem dX4_errorOfSign_19 : decode cX4_errorOfSign 19 = .ok (.iconst (-1), 1) := by decide +kernel
theorem dX4_errorOfSign_20 : decode cX4_errorOfSign 20 = .ok (.ireturn, 1) := by decide +kernel
theorem dX4_errorOfSign_21 : decode cX4_errorOfSign 21 = .ok (.aload_n 0, 1) := by decide +kernel
theorem dX4_errorOfSign_22 : decode cX4_errorOfSign 22 = .ok (.getfield 7, 3) := by decide +kernel
theorem dX4_errorOfSign_25 : decode cX4_errorOfSign 25 = .ok (.iconst 2, 1) := by decide +kernel
theorem dX4_errorOfSign_26 : decode cX4_errorOfSign 26 = .ok (.iaload, 1) := by decide +kernel
theorem dX4_errorOfSign_27 : decode cX4_errorOfSign 27 = .ok (.bipush 14, 2) := by decide +kernel
theorem dX4_errorOfSign_29 : decode cX4_errorOfSign 29 = .ok (.if_icmp .ne 8, 3) := by decide +kernel
theorem dX4_errorOfSign_32 : decode cX4_errorOfSign 32 = .ok (.bipush (-3), 2) := by decide +kernel
theorem dX4_errorOfSign_34 : decode cX4_errorOfSign 34 = .ok (.goto 4, 3) := by decide +kernel
theorem dX4_errorOfSign_37 : decode cX4_errorOfSign 37 = .ok (.iconst 0, 1) := by decide +kernel
theorem dX4_errorOfSign_38 : decode cX4_errorOfSign 38 = .ok (.ireturn, 1) := by decide +kernel
theorem dX4_goSign_0 : decode cX4_goSign 0 = .ok (.aload_n 0, 1) := by decide +kernel
theorem dX4_goSign_1 : decode cX4_goSign 1 = .ok (.iload_n 1, 1) := by decide +kernel
theorem dX4_goSign_2 : decode cX4_goSign 2 = .ok (.iload_n 2, 1) := by decide +kernel
theorem dX4_goSign_3 : decode cX4_goSign 3 = .ok (.iload_n 3, 1) := by decide +kernel
theorem dX4_goSign_4 : decode cX4_goSign 4 = .ok (.invokevirtual 94, 3) := by decide +kernel
theorem dX4_goSign_7 : decode cX4_goSign 7 = .ok (.istore 4, 2) := by decide +kernel
theorem dX4_goSign_9 : decode cX4_goSign 9 = .ok (.iload 4, 2) := by decide +kernel
theorem dX4_goSign_11 : decode cX4_goSign 11 = .ok (.ifCond .le 10, 3) := by decide +kernel
theorem dX4_goSign_14 : decode cX4_goSign 14 = .ok (.aload_n 0, 1) := by decide +kernel
theorem dX4_goSign_15 : decode cX4_goSign 15 = .ok (.iload 4, 2) := by decide +kernel
theorem dX4_goSign_17 : decode cX4_goSign 17 = .ok (.invokevirtual 97, 3) := by decide +kernel
theorem dX4_goSign_20 : decode cX4_goSign 20 = .ok (.ireturn, 1) := by decide +kernel
theorem dX4_goSign_21 : decode cX4_goSign 21 = .ok (.aload_n 0, 1) := by decide +kernel
theorem dX4_goSign_22 : decode cX4_goSign 22 = .ok (.getfield 7, 3) := by decide +kernel
theorem dX4_goSign_25 : decode cX4_goSign 25 = .ok (.iconst 2, 1) := by decide +kernel
theorem dX4_goSign_26 : decode cX4_goSign 26 = .ok (.iaload, 1) := by decide +kernel
theorem dX4_goSign_27 : decode cX4_goSign 27 = .ok (.istore 5, 2) := by decide +kernel
theorem dX4_goSign_29 : decode cX4_goSign 29 = .ok (.aload_n 0, 1) := by decide +kernel
theorem dX4_goSign_30 : decode cX4_goSign 30 = .ok (.iload 5, 2) := by decide +kernel
theorem dX4_goSign_32 : decode cX4_goSign 32 = .ok (.iconst 0, 1) := by decide +kernel
theorem dX4_goSign_33 : decode cX4_goSign 33 = .ok (.iload_n 1, 1) := by decide +kernel
theorem dX4_goSign_34 : decode cX4_goSign 34 = .ok (.invokevirtual 100, 3) := by decide +kernel
theorem dX4_goSign_37 : decode cX4_goSign 37 = .ok (.aload_n 0, 1) := by decide +kernel
theorem dX4_goSign_38 : decode cX4_goSign 38 = .ok (.iload 5, 2) := by decide +kernel
theorem dX4_goSign_40 : decode cX4_goSign 40 = .ok (.iconst 1, 1) := by decide +kernel
theorem dX4_goSign_41 : decode cX4_goSign 41 = .ok (.iload_n 2, 1) := by decide +kernel
theorem dX4_goSign_42 : decode cX4_goSign 42 = .ok (.invokevirtual 100, 3) := by decide +kernel
theorem dX4_goSign_45 : decode cX4_goSign 45 = .ok (.aload_n 0, 1) := by decide +kernel
theorem dX4_goSign_46 : decode cX4_goSign 46 = .ok (.iload 5, 2) := by decide +kernel
theorem dX4_goSign_48 : decode cX4_goSign 48 = .ok (.iconst 2, 1) := by decide +kernel
theorem dX4_goSign_49 : decode cX4_goSign 49 = .ok (.iload_n 3, 1) := by decide +kernel
theorem dX4_goSign_50 : decode cX4_goSign 50 = .ok (.invokevirtual 100, 3) := by decide +kernel
theorem dX4_goSign_53 : decode cX4_goSign 53 = .ok (.aload_n 0, 1) := by decide +kernel
theorem dX4_goSign_54 : decode cX4_goSign 54 = .ok (.iload 5, 2) := by decide +kernel
theorem dX4_goSign_56 : decode cX4_goSign 56 = .ok (.iconst 3, 1) := by decide +kernel
theorem dX4_goSign_57 : decode cX4_goSign 57 = .ok (.iconst 0, 1) := by decide +kernel
theorem dX4_goSign_58 : decode cX4_goSign 58 = .ok (.invokevirtual 100, 3) := by decide +kernel
theorem dX4_goSign_61 : decode cX4_goSign 61 = .ok (.aload_n 0, 1) := by decide +kernel
theorem dX4_goSign_62 : decode cX4_goSign 62 = .ok (.getfield 7, 3) := by decide +kernel
theorem dX4_goSign_65 : decode cX4_goSign 65 = .ok (.iconst 2, 1) := by decide +kernel
theorem dX4_goSign_66 : decode cX4_goSign 66 = .ok (.dup2, 1) := by decide +kernel
theorem dX4_goSign_67 : decode cX4_goSign 67 = .ok (.iaload, 1) := by decide +kernel
theorem dX4_goSign_68 : decode cX4_goSign 68 = .ok (.iconst 1, 1) := by decide +kernel
theorem dX4_goSign_69 : decode cX4_goSign 69 = .ok (.iadd, 1) := by decide +kernel
theorem dX4_goSign_70 : decode cX4_goSign 70 = .ok (.iastore, 1) := by decide +kernel
theorem dX4_goSign_71 : decode cX4_goSign 71 = .ok (.aload_n 0, 1) := by decide +kernel
theorem dX4_goSign_72 : decode cX4_goSign 72 = .ok (.getfield 7, 3) := by decide +kernel
theorem dX4_goSign_75 : decode cX4_goSign 75 = .ok (.iconst 3, 1) := by decide +kernel
theorem dX4_goSign_76 : decode cX4_goSign 76 = .ok (.dup2, 1) := by decide +kernel
theorem dX4_goSign_77 : decode cX4_goSign 77 = .ok (.iaload, 1) := by decide +kernel
theorem dX4_goSign_78 : decode cX4_goSign 78 = .ok (.iconst 1, 1) := by decide +kernel
theorem dX4_goSign_79 : decode cX4_goSign 79 = .ok (.iadd, 1) := by decide +kernel
theorem dX4_goSign_80 : decode cX4_goSign 80 = .ok (.iastore, 1) := by decide +kernel
theorem dX4_goSign_81 : decode cX4_goSign 81 = .ok (.bipush 10, 2) := by decide +kernel
theorem dX4_goSign_83 : decode cX4_goSign 83 = .ok (.iload 5, 2) := by decide +kernel
theorem dX4_goSign_85 : decode cX4_goSign 85 = .ok (.iadd, 1) := by decide +kernel
theorem dX4_goSign_86 : decode cX4_goSign 86 = .ok (.ireturn, 1) := by decide +kernel
theorem dX4_clips_0 : decode cX4_clips 0 = .ok (.aload_n 0, 1) := by decide +kernel
theorem dX4_clips_1 : decode cX4_clips 1 = .ok (.iload_n 1, 1) := by decide +kernel
theorem dX4_clips_2 : decode cX4_clips 2 = .ok (.iconst 0, 1) := by decide +kernel
theorem dX4_clips_3 : decode cX4_clips 3 = .ok (.aload_n 0, 1) := by decide +kernel
theorem dX4_clips_4 : decode cX4_clips 4 = .ok (.iload_n 1, 1) := by decide +kernel
theorem dX4_clips_5 : decode cX4_clips 5 = .ok (.iconst 0, 1) := by decide +kernel
theorem dX4_clips_6 : decode cX4_clips 6 = .ok (.invokevirtual 50, 3) := by decide +kernel
theorem dX4_clips_9 : decode cX4_clips 9 = .ok (.iload_n 2, 1) := by decide +kernel
theorem dX4_clips_10 : decode cX4_clips 10 = .ok (.isub, 1) := by decide +kernel
theorem dX4_clips_11 : decode cX4_clips 11 = .ok (.invokevirtual 34, 3) := by decide +kernel
theorem dX4_clips_14 : decode cX4_clips 14 = .ok (.aload_n 0, 1) := by decide +kernel
theorem dX4_clips_15 : decode cX4_clips 15 = .ok (.iload_n 1, 1) := by decide +kernel
theorem dX4_clips_16 : decode cX4_clips 16 = .ok (.iconst 3, 1) := by decide +kernel
theorem dX4_clips_17 : decode cX4_clips 17 = .ok (.aload_n 0, 1) := by decide +kernel
theorem dX4_clips_18 : decode cX4_clips 18 = .ok (.iload_n 1, 1) := by decide +kernel
theorem dX4_clips_19 : decode cX4_clips 19 = .ok (.iconst 3, 1) := by decide +kernel
theorem dX4_clips_20 : decode cX4_clips 20 = .ok (.invokevirtual 50, 3) := by decide +kernel
theorem dX4_clips_23 : decode cX4_clips 23 = .ok (.iload_n 2, 1) := by decide +kernel
theorem dX4_clips_24 : decode cX4_clips 24 = .ok (.iadd, 1) := by decide +kernel
theorem dX4_clips_25 : decode cX4_clips 25 = .ok (.invokevirtual 34, 3) := by decide +kernel
theorem dX4_clips_28 : decode cX4_clips 28 = .ok (.aload_n 0, 1) := by decide +kernel
theorem dX4_clips_29 : decode cX4_clips 29 = .ok (.getfield 7, 3) := by decide +kernel
theorem dX4_clips_32 : decode cX4_clips 32 = .ok (.iconst 5, 1) := by decide +kernel
theorem dX4_clips_33 : decode cX4_clips 33 = .ok (.dup2, 1) := by decide +kernel
theorem dX4_clips_34 : decode cX4_clips 34 = .ok (.iaload, 1) := by decide +kernel
theorem dX4_clips_35 : decode cX4_clips 35 = .ok (.iconst 1, 1) := by decide +kernel
theorem dX4_clips_36 : decode cX4_clips 36 = .ok (.iadd, 1) := by decide +kernel
theorem dX4_clips_37 : decode cX4_clips 37 = .ok (.iastore, 1) := by decide +kernel
theorem dX4_clips_38 : decode cX4_clips 38 = .ok (.aload_n 0, 1) := by decide +kernel
theorem dX4_clips_39 : decode cX4_clips 39 = .ok (.getfield 7, 3) := by decide +kernel
theorem dX4_clips_42 : decode cX4_clips 42 = .ok (.bipush 6, 2) := by decide +kernel
theorem dX4_clips_44 : decode cX4_clips 44 = .ok (.dup2, 1) := by decide +kernel
theorem dX4_clips_45 : decode cX4_clips 45 = .ok (.iaload, 1) := by decide +kernel
theorem dX4_clips_46 : decode cX4_clips 46 = .ok (.iload_n 2, 1) := by decide +kernel
theorem dX4_clips_47 : decode cX4_clips 47 = .ok (.iadd, 1) := by decide +kernel
theorem dX4_clips_48 : decode cX4_clips 48 = .ok (.iastore, 1) := by decide +kernel
theorem dX4_clips_49 : decode cX4_clips 49 = .ok (.return_, 1) := by decide +kernel
theorem dX4_goPlan_0 : decode cX4_goPlan 0 = .ok (.aload_n 0, 1) := by decide +kernel
theorem dX4_goPlan_1 : decode cX4_goPlan 1 = .ok (.invokevirtual 103, 3) := by decide +kernel
theorem dX4_goPlan_4 : decode cX4_goPlan 4 = .ok (.ifCond .ne 9, 3) := by decide +kernel
theorem dX4_goPlan_7 : decode cX4_goPlan 7 = .ok (.aload_n 0, 1) := by decide +kernel
theorem dX4_goPlan_8 : decode cX4_goPlan 8 = .ok (.iconst 4, 1) := by decide +kernel
theorem dX4_goPlan_9 : decode cX4_goPlan 9 = .ok (.invokevirtual 97, 3) := by decide +kernel
theorem dX4_goPlan_12 : decode cX4_goPlan 12 = .ok (.ireturn, 1) := by decide +kernel
theorem dX4_goPlan_13 : decode cX4_goPlan 13 = .ok (.iconst 0, 1) := by decide +kernel
theorem dX4_goPlan_14 : decode cX4_goPlan 14 = .ok (.istore_n 1, 1) := by decide +kernel
theorem dX4_goPlan_15 : decode cX4_goPlan 15 = .ok (.iconst 0, 1) := by decide +kernel
theorem dX4_goPlan_16 : decode cX4_goPlan 16 = .ok (.istore_n 2, 1) := by decide +kernel
theorem dX4_goPlan_17 : decode cX4_goPlan 17 = .ok (.iload_n 2, 1) := by decide +kernel
theorem dX4_goPlan_18 : decode cX4_goPlan 18 = .ok (.bipush 8, 2) := by decide +kernel
theorem dX4_goPlan_20 : decode cX4_goPlan 20 = .ok (.if_icmp .ge 42, 3) := by decide +kernel
theorem dX4_goPlan_23 : decode cX4_goPlan 23 = .ok (.iload_n 1, 1) := by decide +kernel
theorem dX4_goPlan_24 : decode cX4_goPlan 24 = .ok (.ifCond .ne 26, 3) := by decide +kernel
theorem dX4_goPlan_27 : decode cX4_goPlan 27 = .ok (.aload_n 0, 1) := by decide +kernel
theorem dX4_goPlan_28 : decode cX4_goPlan 28 = .ok (.getfield 25, 3) := by decide +kernel
theorem dX4_goPlan_31 : decode cX4_goPlan 31 = .ok (.iload_n 2, 1) := by decide +kernel
theorem dX4_goPlan_32 : decode cX4_goPlan 32 = .ok (.iaload, 1) := by decide +kernel
theorem dX4_goPlan_33 : decode cX4_goPlan 33 = .ok (.aload_n 0, 1) := by decide +kernel
theorem dX4_goPlan_34 : decode cX4_goPlan 34 = .ok (.iload_n 2, 1) := by decide +kernel
theorem dX4_goPlan_35 : decode cX4_goPlan 35 = .ok (.iconst 0, 1) := by decide +kernel
theorem dX4_goPlan_36 : decode cX4_goPlan 36 = .ok (.invokevirtual 50, 3) := by decide +kernel
theorem dX4_goPlan_39 : decode cX4_goPlan 39 = .ok (.if_icmp .ge 15, 3) := by decide +kernel
theorem dX4_goPlan_42 : decode cX4_goPlan 42 = .ok (.aload_n 0, 1) := by decide +kernel
theorem dX4_goPlan_43 : decode cX4_goPlan 43 = .ok (.iload_n 2, 1) := by decide +kernel
theorem dX4_goPlan_44 : decode cX4_goPlan 44 = .ok (.invokevirtual 106, 3) := by decide +kernel
theorem dX4_goPlan_47 : decode cX4_goPlan 47 = .ok (.ifCond .eq 7, 3) := by decide +kernel
theorem dX4_goPlan_50 : decode cX4_goPlan 50 = .ok (.iconst 1, 1) := by decide +kernel
theorem dX4_goPlan_51 : decode cX4_goPlan 51 = .ok (.goto 4, 3) := by decide +kernel
theorem dX4_goPlan_54 : decode cX4_goPlan 54 = .ok (.iconst 0, 1) := by decide +kernel
theorem dX4_goPlan_55 : decode cX4_goPlan 55 = .ok (.istore_n 1, 1) := by decide +kernel
theorem dX4_goPlan_56 : decode cX4_goPlan 56 = .ok (.iinc 2 1, 3) := by decide +kernel
theorem dX4_goPlan_59 : decode cX4_goPlan 59 = .ok (.goto (-42), 3) := by decide +kernel
theorem dX4_goPlan_62 : decode cX4_goPlan 62 = .ok (.iload_n 1, 1) := by decide +kernel
theorem dX4_goPlan_63 : decode cX4_goPlan 63 = .ok (.ifCond .eq 9, 3) := by decide +kernel
theorem dX4_goPlan_66 : decode cX4_goPlan 66 = .ok (.aload_n 0, 1) := by decide +kernel
theorem dX4_goPlan_67 : decode cX4_goPlan 67 = .ok (.iconst 3, 1) := by decide +kernel
theorem dX4_goPlan_68 : decode cX4_goPlan 68 = .ok (.invokevirtual 97, 3) := by decide +kernel
theorem dX4_goPlan_71 : decode cX4_goPlan 71 = .ok (.ireturn, 1) := by decide +kernel
theorem dX4_goPlan_72 : decode cX4_goPlan 72 = .ok (.aload_n 0, 1) := by decide +kernel
theorem dX4_goPlan_73 : decode cX4_goPlan 73 = .ok (.getfield 7, 3) := by decide +kernel
theorem dX4_goPlan_76 : decode cX4_goPlan 76 = .ok (.bipush 6, 2) := by decide +kernel
theorem dX4_goPlan_78 : decode cX4_goPlan 78 = .ok (.iaload, 1) := by decide +kernel
theorem dX4_goPlan_79 : decode cX4_goPlan 79 = .ok (.istore_n 2, 1) := by decide +kernel
theorem dX4_goPlan_80 : decode cX4_goPlan 80 = .ok (.iconst 0, 1) := by decide +kernel
theorem dX4_goPlan_81 : decode cX4_goPlan 81 = .ok (.istore_n 3, 1) := by decide +kernel
theorem dX4_goPlan_82 : decode cX4_goPlan 82 = .ok (.iload_n 3, 1) := by decide +kernel
theorem dX4_goPlan_83 : decode cX4_goPlan 83 = .ok (.bipush 8, 2) := by decide +kernel
theorem dX4_goPlan_85 : decode cX4_goPlan 85 = .ok (.if_icmp .ge 42, 3) := by decide +kernel
theorem dX4_goPlan_88 : decode cX4_goPlan 88 = .ok (.aload_n 0, 1) := by decide +kernel
theorem dX4_goPlan_89 : decode cX4_goPlan 89 = .ok (.getfield 25, 3) := by decide +kernel
theorem dX4_goPlan_92 : decode cX4_goPlan 92 = .ok (.iload_n 3, 1) := by decide +kernel
theorem dX4_goPlan_93 : decode cX4_goPlan 93 = .ok (.iaload, 1) := by decide +kernel
theorem dX4_goPlan_94 : decode cX4_goPlan 94 = .ok (.aload_n 0, 1) := by decide +kernel
theorem dX4_goPlan_95 : decode cX4_goPlan 95 = .ok (.iload_n 3, 1) := by decide +kernel
theorem dX4_goPlan_96 : decode cX4_goPlan 96 = .ok (.iconst 0, 1) := by decide +kernel
theorem dX4_goPlan_97 : decode cX4_goPlan 97 = .ok (.invokevirtual 50, 3) := by decide +kernel
theorem dX4_goPlan_100 : decode cX4_goPlan 100 = .ok (.if_icmp .ge 21, 3) := by decide +kernel
theorem dX4_goPlan_103 : decode cX4_goPlan 103 = .ok (.aload_n 0, 1) := by decide +kernel
theorem dX4_goPlan_104 : decode cX4_goPlan 104 = .ok (.iload_n 3, 1) := by decide +kernel
theorem dX4_goPlan_105 : decode cX4_goPlan 105 = .ok (.aload_n 0, 1) := by decide +kernel
theorem dX4_goPlan_106 : decode cX4_goPlan 106 = .ok (.iload_n 3, 1) := by decide +kernel
theorem dX4_goPlan_107 : decode cX4_goPlan 107 = .ok (.iconst 0, 1) := by decide +kernel
theorem dX4_goPlan_108 : decode cX4_goPlan 108 = .ok (.invokevirtual 50, 3) := by decide +kernel
theorem dX4_goPlan_111 : decode cX4_goPlan 111 = .ok (.aload_n 0, 1) := by decide +kernel
theorem dX4_goPlan_112 : decode cX4_goPlan 112 = .ok (.getfield 25, 3) := by decide +kernel
theorem dX4_goPlan_115 : decode cX4_goPlan 115 = .ok (.iload_n 3, 1) := by decide +kernel
theorem dX4_goPlan_116 : decode cX4_goPlan 116 = .ok (.iaload, 1) := by decide +kernel
theorem dX4_goPlan_117 : decode cX4_goPlan 117 = .ok (.isub, 1) := by decide +kernel
theorem dX4_goPlan_118 : decode cX4_goPlan 118 = .ok (.invokevirtual 109, 3) := by decide +kernel
theorem dX4_goPlan_121 : decode cX4_goPlan 121 = .ok (.iinc 3 1, 3) := by decide +kernel
theorem dX4_goPlan_124 : decode cX4_goPlan 124 = .ok (.goto (-42), 3) := by decide +kernel
theorem dX4_goPlan_127 : decode cX4_goPlan 127 = .ok (.bipush 10, 2) := by decide +kernel
theorem dX4_goPlan_129 : decode cX4_goPlan 129 = .ok (.aload_n 0, 1) := by decide +kernel
theorem dX4_goPlan_130 : decode cX4_goPlan 130 = .ok (.getfield 7, 3) := by decide +kernel
theorem dX4_goPlan_133 : decode cX4_goPlan 133 = .ok (.bipush 6, 2) := by decide +kernel
theorem dX4_goPlan_135 : decode cX4_goPlan 135 = .ok (.iaload, 1) := by decide +kernel
theorem dX4_goPlan_136 : decode cX4_goPlan 136 = .ok (.iadd, 1) := by decide +kernel
theorem dX4_goPlan_137 : decode cX4_goPlan 137 = .ok (.iload_n 2, 1) := by decide +kernel
theorem dX4_goPlan_138 : decode cX4_goPlan 138 = .ok (.isub, 1) := by decide +kernel
theorem dX4_goPlan_139 : decode cX4_goPlan 139 = .ok (.ireturn, 1) := by decide +kernel
theorem dX4_goDay_0 : decode cX4_goDay 0 = .ok (.aload_n 0, 1) := by decide +kernel
theorem dX4_goDay_1 : decode cX4_goDay 1 = .ok (.getfield 7, 3) := by decide +kernel
theorem dX4_goDay_4 : decode cX4_goDay 4 = .ok (.iconst 0, 1) := by decide +kernel
theorem dX4_goDay_5 : decode cX4_goDay 5 = .ok (.dup2, 1) := by decide +kernel
theorem dX4_goDay_6 : decode cX4_goDay 6 = .ok (.iaload, 1) := by decide +kernel
theorem dX4_goDay_7 : decode cX4_goDay 7 = .ok (.iconst 1, 1) := by decide +kernel
theorem dX4_goDay_8 : decode cX4_goDay 8 = .ok (.iadd, 1) := by decide +kernel
theorem dX4_goDay_9 : decode cX4_goDay 9 = .ok (.iastore, 1) := by decide +kernel
theorem dX4_goDay_10 : decode cX4_goDay 10 = .ok (.iconst 0, 1) := by decide +kernel
theorem dX4_goDay_11 : decode cX4_goDay 11 = .ok (.istore_n 1, 1) := by decide +kernel
theorem dX4_goDay_12 : decode cX4_goDay 12 = .ok (.iload_n 1, 1) := by decide +kernel
theorem dX4_goDay_13 : decode cX4_goDay 13 = .ok (.bipush 8, 2) := by decide +kernel
theorem dX4_goDay_15 : decode cX4_goDay 15 = .ok (.if_icmp .ge 41, 3) := by decide +kernel
theorem dX4_goDay_18 : decode cX4_goDay 18 = .ok (.aload_n 0, 1) := by decide +kernel
theorem dX4_goDay_19 : decode cX4_goDay 19 = .ok (.iload_n 1, 1) := by decide +kernel
theorem dX4_goDay_20 : decode cX4_goDay 20 = .ok (.iconst 0, 1) := by decide +kernel
theorem dX4_goDay_21 : decode cX4_goDay 21 = .ok (.invokevirtual 50, 3) := by decide +kernel
theorem dX4_goDay_24 : decode cX4_goDay 24 = .ok (.aload_n 0, 1) := by decide +kernel
theorem dX4_goDay_25 : decode cX4_goDay 25 = .ok (.iload_n 1, 1) := by decide +kernel
theorem dX4_goDay_26 : decode cX4_goDay 26 = .ok (.iconst 1, 1) := by decide +kernel
theorem dX4_goDay_27 : decode cX4_goDay 27 = .ok (.invokevirtual 50, 3) := by decide +kernel
theorem dX4_goDay_30 : decode cX4_goDay 30 = .ok (.iadd, 1) := by decide +kernel
theorem dX4_goDay_31 : decode cX4_goDay 31 = .ok (.istore_n 2, 1) := by decide +kernel
theorem dX4_goDay_32 : decode cX4_goDay 32 = .ok (.aload_n 0, 1) := by decide +kernel
theorem dX4_goDay_33 : decode cX4_goDay 33 = .ok (.iload_n 1, 1) := by decide +kernel
theorem dX4_goDay_34 : decode cX4_goDay 34 = .ok (.iconst 0, 1) := by decide +kernel
theorem dX4_goDay_35 : decode cX4_goDay 35 = .ok (.iload_n 2, 1) := by decide +kernel
theorem dX4_goDay_36 : decode cX4_goDay 36 = .ok (.bipush 99, 2) := by decide +kernel
theorem dX4_goDay_38 : decode cX4_goDay 38 = .ok (.if_icmp .le 8, 3) := by decide +kernel
theorem dX4_goDay_41 : decode cX4_goDay 41 = .ok (.bipush 99, 2) := by decide +kernel
theorem dX4_goDay_43 : decode cX4_goDay 43 = .ok (.goto 4, 3) := by decide +kernel
theorem dX4_goDay_46 : decode cX4_goDay 46 = .ok (.iload_n 2, 1) := by decide +kernel
theorem dX4_goDay_47 : decode cX4_goDay 47 = .ok (.invokevirtual 34, 3) := by decide +kernel
theorem dX4_goDay_50 : decode cX4_goDay 50 = .ok (.iinc 1 1, 3) := by decide +kernel
theorem dX4_goDay_53 : decode cX4_goDay 53 = .ok (.goto (-41), 3) := by decide +kernel
theorem dX4_goDay_56 : decode cX4_goDay 56 = .ok (.return_, 1) := by decide +kernel
theorem dX4_height_0 : decode cX4_height 0 = .ok (.iload_n 1, 1) := by decide +kernel
theorem dX4_height_1 : decode cX4_height 1 = .ok (.invokestatic 87, 3) := by decide +kernel
theorem dX4_height_4 : decode cX4_height 4 = .ok (.ifCond .eq 13, 3) := by decide +kernel
theorem dX4_height_7 : decode cX4_height 7 = .ok (.iload_n 2, 1) := by decide +kernel
theorem dX4_height_8 : decode cX4_height 8 = .ok (.iconst 0, 1) := by decide +kernel
theorem dX4_height_9 : decode cX4_height 9 = .ok (.bipush 99, 2) := by decide +kernel
theorem dX4_height_11 : decode cX4_height 11 = .ok (.invokestatic 46, 3) := by decide +kernel
theorem dX4_height_14 : decode cX4_height 14 = .ok (.ifCond .ne 5, 3) := by decide +kernel
theorem dX4_height_17 : decode cX4_height 17 = .ok (.iconst (-1), 1) := by decide +kernel
theorem dX4_height_18 : decode cX4_height 18 = .ok (.ireturn, 1) := by decide +kernel
theorem dX4_height_19 : decode cX4_height 19 = .ok (.aload_n 0, 1) := by decide +kernel
theorem dX4_height_20 : decode cX4_height 20 = .ok (.invokevirtual 113, 3) := by decide +kernel
theorem dX4_height_23 : decode cX4_height 23 = .ok (.aload_n 0, 1) := by decide +kernel
theorem dX4_height_24 : decode cX4_height 24 = .ok (.iload_n 1, 1) := by decide +kernel
theorem dX4_height_25 : decode cX4_height 25 = .ok (.iconst 0, 1) := by decide +kernel
theorem dX4_height_26 : decode cX4_height 26 = .ok (.invokevirtual 50, 3) := by decide +kernel
theorem dX4_height_29 : decode cX4_height 29 = .ok (.istore_n 3, 1) := by decide +kernel
theorem dX4_height_30 : decode cX4_height 30 = .ok (.aload_n 0, 1) := by decide +kernel
theorem dX4_height_31 : decode cX4_height 31 = .ok (.iload_n 1, 1) := by decide +kernel
theorem dX4_height_32 : decode cX4_height 32 = .ok (.iconst 0, 1) := by decide +kernel
theorem dX4_height_33 : decode cX4_height 33 = .ok (.iload_n 2, 1) := by decide +kernel
theorem dX4_height_34 : decode cX4_height 34 = .ok (.invokevirtual 34, 3) := by decide +kernel
theorem dX4_height_37 : decode cX4_height 37 = .ok (.iload_n 3, 1) := by decide +kernel
theorem dX4_height_38 : decode cX4_height 38 = .ok (.ireturn, 1) := by decide +kernel
theorem dX4_growth_0 : decode cX4_growth 0 = .ok (.iload_n 1, 1) := by decide +kernel
theorem dX4_growth_1 : decode cX4_growth 1 = .ok (.invokestatic 87, 3) := by decide +kernel
theorem dX4_growth_4 : decode cX4_growth 4 = .ok (.ifCond .eq 12, 3) := by decide +kernel
theorem dX4_growth_7 : decode cX4_growth 7 = .ok (.iload_n 2, 1) := by decide +kernel
theorem dX4_growth_8 : decode cX4_growth 8 = .ok (.iconst 0, 1) := by decide +kernel
theorem dX4_growth_9 : decode cX4_growth 9 = .ok (.iconst 5, 1) := by decide +kernel
theorem dX4_growth_10 : decode cX4_growth 10 = .ok (.invokestatic 46, 3) := by decide +kernel
theorem dX4_growth_13 : decode cX4_growth 13 = .ok (.ifCond .ne 5, 3) := by decide +kernel
theorem dX4_growth_16 : decode cX4_growth 16 = .ok (.iconst (-1), 1) := by decide +kernel
theorem dX4_growth_17 : decode cX4_growth 17 = .ok (.ireturn, 1) := by decide +kernel
theorem dX4_growth_18 : decode cX4_growth 18 = .ok (.aload_n 0, 1) := by decide +kernel
theorem dX4_growth_19 : decode cX4_growth 19 = .ok (.invokevirtual 113, 3) := by decide +kernel
theorem dX4_growth_22 : decode cX4_growth 22 = .ok (.aload_n 0, 1) := by decide +kernel
theorem dX4_growth_23 : decode cX4_growth 23 = .ok (.iload_n 1, 1) := by decide +kernel
theorem dX4_growth_24 : decode cX4_growth 24 = .ok (.iconst 1, 1) := by decide +kernel
theorem dX4_growth_25 : decode cX4_growth 25 = .ok (.invokevirtual 50, 3) := by decide +kernel
theorem dX4_growth_28 : decode cX4_growth 28 = .ok (.istore_n 3, 1) := by decide +kernel
theorem dX4_growth_29 : decode cX4_growth 29 = .ok (.aload_n 0, 1) := by decide +kernel
theorem dX4_growth_30 : decode cX4_growth 30 = .ok (.iload_n 1, 1) := by decide +kernel
theorem dX4_growth_31 : decode cX4_growth 31 = .ok (.iconst 1, 1) := by decide +kernel
theorem dX4_growth_32 : decode cX4_growth 32 = .ok (.iload_n 2, 1) := by decide +kernel
theorem dX4_growth_33 : decode cX4_growth 33 = .ok (.invokevirtual 34, 3) := by decide +kernel
theorem dX4_growth_36 : decode cX4_growth 36 = .ok (.iload_n 3, 1) := by decide +kernel
theorem dX4_growth_37 : decode cX4_growth 37 = .ok (.ireturn, 1) := by decide +kernel
theorem dX4_nest_0 : decode cX4_nest 0 = .ok (.iload_n 1, 1) := by decide +kernel
theorem dX4_nest_1 : decode cX4_nest 1 = .ok (.invokestatic 87, 3) := by decide +kernel
theorem dX4_nest_4 : decode cX4_nest 4 = .ok (.ifCond .eq 13, 3) := by decide +kernel
theorem dX4_nest_7 : decode cX4_nest 7 = .ok (.iload_n 2, 1) := by decide +kernel
theorem dX4_nest_8 : decode cX4_nest 8 = .ok (.iconst 0, 1) := by decide +kernel
theorem dX4_nest_9 : decode cX4_nest 9 = .ok (.bipush 30, 2) := by decide +kernel
theorem dX4_nest_11 : decode cX4_nest 11 = .ok (.invokestatic 46, 3) := by decide +kernel
theorem dX4_nest_14 : decode cX4_nest 14 = .ok (.ifCond .ne 5, 3) := by decide +kernel
theorem dX4_nest_17 : decode cX4_nest 17 = .ok (.iconst (-1), 1) := by decide +kernel
theorem dX4_nest_18 : decode cX4_nest 18 = .ok (.ireturn, 1) := by decide +kernel
theorem dX4_nest_19 : decode cX4_nest 19 = .ok (.aload_n 0, 1) := by decide +kernel
theorem dX4_nest_20 : decode cX4_nest 20 = .ok (.invokevirtual 113, 3) := by decide +kernel
theorem dX4_nest_23 : decode cX4_nest 23 = .ok (.aload_n 0, 1) := by decide +kernel
theorem dX4_nest_24 : decode cX4_nest 24 = .ok (.iload_n 1, 1) := by decide +kernel
theorem dX4_nest_25 : decode cX4_nest 25 = .ok (.iconst 2, 1) := by decide +kernel
theorem dX4_nest_26 : decode cX4_nest 26 = .ok (.invokevirtual 50, 3) := by decide +kernel
theorem dX4_nest_29 : decode cX4_nest 29 = .ok (.istore_n 3, 1) := by decide +kernel
theorem dX4_nest_30 : decode cX4_nest 30 = .ok (.aload_n 0, 1) := by decide +kernel
theorem dX4_nest_31 : decode cX4_nest 31 = .ok (.iload_n 1, 1) := by decide +kernel
theorem dX4_nest_32 : decode cX4_nest 32 = .ok (.iconst 2, 1) := by decide +kernel
theorem dX4_nest_33 : decode cX4_nest 33 = .ok (.aload_n 0, 1) := by decide +kernel
theorem dX4_nest_34 : decode cX4_nest 34 = .ok (.getfield 7, 3) := by decide +kernel
theorem dX4_nest_37 : decode cX4_nest 37 = .ok (.iconst 0, 1) := by decide +kernel
theorem dX4_nest_38 : decode cX4_nest 38 = .ok (.iaload, 1) := by decide +kernel
theorem dX4_nest_39 : decode cX4_nest 39 = .ok (.iload_n 2, 1) := by decide +kernel
theorem dX4_nest_40 : decode cX4_nest 40 = .ok (.iadd, 1) := by decide +kernel
theorem dX4_nest_41 : decode cX4_nest 41 = .ok (.invokevirtual 34, 3) := by decide +kernel
theorem dX4_nest_44 : decode cX4_nest 44 = .ok (.iload_n 3, 1) := by decide +kernel
theorem dX4_nest_45 : decode cX4_nest 45 = .ok (.ireturn, 1) := by decide +kernel
theorem dX4_clip_0 : decode cX4_clip 0 = .ok (.iload_n 1, 1) := by decide +kernel
theorem dX4_clip_1 : decode cX4_clip 1 = .ok (.invokestatic 87, 3) := by decide +kernel
theorem dX4_clip_4 : decode cX4_clip 4 = .ok (.ifCond .eq 13, 3) := by decide +kernel
theorem dX4_clip_7 : decode cX4_clip 7 = .ok (.iload_n 2, 1) := by decide +kernel
theorem dX4_clip_8 : decode cX4_clip 8 = .ok (.iconst 1, 1) := by decide +kernel
theorem dX4_clip_9 : decode cX4_clip 9 = .ok (.bipush 99, 2) := by decide +kernel
theorem dX4_clip_11 : decode cX4_clip 11 = .ok (.invokestatic 46, 3) := by decide +kernel
theorem dX4_clip_14 : decode cX4_clip 14 = .ok (.ifCond .ne 5, 3) := by decide +kernel
theorem dX4_clip_17 : decode cX4_clip 17 = .ok (.iconst (-1), 1) := by decide +kernel
theorem dX4_clip_18 : decode cX4_clip 18 = .ok (.ireturn, 1) := by decide +kernel
theorem dX4_clip_19 : decode cX4_clip 19 = .ok (.aload_n 0, 1) := by decide +kernel
theorem dX4_clip_20 : decode cX4_clip 20 = .ok (.invokevirtual 113, 3) := by decide +kernel
theorem dX4_clip_23 : decode cX4_clip 23 = .ok (.aload_n 0, 1) := by decide +kernel
theorem dX4_clip_24 : decode cX4_clip 24 = .ok (.iload_n 1, 1) := by decide +kernel
theorem dX4_clip_25 : decode cX4_clip 25 = .ok (.invokevirtual 106, 3) := by decide +kernel
theorem dX4_clip_28 : decode cX4_clip 28 = .ok (.ifCond .ne 13, 3) := by decide +kernel
theorem dX4_clip_31 : decode cX4_clip 31 = .ok (.iload_n 2, 1) := by decide +kernel
theorem dX4_clip_32 : decode cX4_clip 32 = .ok (.aload_n 0, 1) := by decide +kernel
theorem dX4_clip_33 : decode cX4_clip 33 = .ok (.iload_n 1, 1) := by decide +kernel
theorem dX4_clip_34 : decode cX4_clip 34 = .ok (.iconst 0, 1) := by decide +kernel
theorem dX4_clip_35 : decode cX4_clip 35 = .ok (.invokevirtual 50, 3) := by decide +kernel
theorem dX4_clip_38 : decode cX4_clip 38 = .ok (.if_icmp .le 21, 3) := by decide +kernel
theorem dX4_clip_41 : decode cX4_clip 41 = .ok (.aload_n 0, 1) := by decide +kernel
theorem dX4_clip_42 : decode cX4_clip 42 = .ok (.aload_n 0, 1) := by decide +kernel
theorem dX4_clip_43 : decode cX4_clip 43 = .ok (.iload_n 1, 1) := by decide +kernel
theorem dX4_clip_44 : decode cX4_clip 44 = .ok (.invokevirtual 106, 3) := by decide +kernel
theorem dX4_clip_47 : decode cX4_clip 47 = .ok (.ifCond .eq 7, 3) := by decide +kernel
theorem dX4_clip_50 : decode cX4_clip 50 = .ok (.iconst 3, 1) := by decide +kernel
theorem dX4_clip_51 : decode cX4_clip 51 = .ok (.goto 4, 3) := by decide +kernel
theorem dX4_clip_54 : decode cX4_clip 54 = .ok (.iconst 4, 1) := by decide +kernel
theorem dX4_clip_55 : decode cX4_clip 55 = .ok (.invokevirtual 97, 3) := by decide +kernel
theorem dX4_clip_58 : decode cX4_clip 58 = .ok (.ireturn, 1) := by decide +kernel
theorem dX4_clip_59 : decode cX4_clip 59 = .ok (.aload_n 0, 1) := by decide +kernel
theorem dX4_clip_60 : decode cX4_clip 60 = .ok (.iload_n 1, 1) := by decide +kernel
theorem dX4_clip_61 : decode cX4_clip 61 = .ok (.iload_n 2, 1) := by decide +kernel
theorem dX4_clip_62 : decode cX4_clip 62 = .ok (.invokevirtual 109, 3) := by decide +kernel
theorem dX4_clip_65 : decode cX4_clip 65 = .ok (.bipush 10, 2) := by decide +kernel
theorem dX4_clip_67 : decode cX4_clip 67 = .ok (.aload_n 0, 1) := by decide +kernel
theorem dX4_clip_68 : decode cX4_clip 68 = .ok (.iload_n 1, 1) := by decide +kernel
theorem dX4_clip_69 : decode cX4_clip 69 = .ok (.iconst 0, 1) := by decide +kernel
theorem dX4_clip_70 : decode cX4_clip 70 = .ok (.invokevirtual 50, 3) := by decide +kernel
theorem dX4_clip_73 : decode cX4_clip 73 = .ok (.iadd, 1) := by decide +kernel
theorem dX4_clip_74 : decode cX4_clip 74 = .ok (.ireturn, 1) := by decide +kernel
theorem dX4_plan_0 : decode cX4_plan 0 = .ok (.aload_n 0, 1) := by decide +kernel
theorem dX4_plan_1 : decode cX4_plan 1 = .ok (.invokevirtual 113, 3) := by decide +kernel
theorem dX4_plan_4 : decode cX4_plan 4 = .ok (.aload_n 0, 1) := by decide +kernel
theorem dX4_plan_5 : decode cX4_plan 5 = .ok (.invokevirtual 116, 3) := by decide +kernel
theorem dX4_plan_8 : decode cX4_plan 8 = .ok (.ireturn, 1) := by decide +kernel
theorem dX4_day_0 : decode cX4_day 0 = .ok (.aload_n 0, 1) := by decide +kernel
theorem dX4_day_1 : decode cX4_day 1 = .ok (.invokevirtual 113, 3) := by decide +kernel
theorem dX4_day_4 : decode cX4_day 4 = .ok (.aload_n 0, 1) := by decide +kernel
theorem dX4_day_5 : decode cX4_day 5 = .ok (.invokevirtual 120, 3) := by decide +kernel
theorem dX4_day_8 : decode cX4_day 8 = .ok (.aload_n 0, 1) := by decide +kernel
theorem dX4_day_9 : decode cX4_day 9 = .ok (.invokevirtual 123, 3) := by decide +kernel
theorem dX4_day_12 : decode cX4_day 12 = .ok (.ireturn, 1) := by decide +kernel
theorem dX4_sign_0 : decode cX4_sign 0 = .ok (.aload_n 0, 1) := by decide +kernel
theorem dX4_sign_1 : decode cX4_sign 1 = .ok (.iload_n 1, 1) := by decide +kernel
theorem dX4_sign_2 : decode cX4_sign 2 = .ok (.iload_n 2, 1) := by decide +kernel
theorem dX4_sign_3 : decode cX4_sign 3 = .ok (.iload_n 3, 1) := by decide +kernel
theorem dX4_sign_4 : decode cX4_sign 4 = .ok (.invokevirtual 126, 3) := by decide +kernel
theorem dX4_sign_7 : decode cX4_sign 7 = .ok (.istore 4, 2) := by decide +kernel
theorem dX4_sign_9 : decode cX4_sign 9 = .ok (.iload 4, 2) := by decide +kernel
theorem dX4_sign_11 : decode cX4_sign 11 = .ok (.ifCond .ge 6, 3) := by decide +kernel
theorem dX4_sign_14 : decode cX4_sign 14 = .ok (.iload 4, 2) := by decide +kernel
theorem dX4_sign_16 : decode cX4_sign 16 = .ok (.ireturn, 1) := by decide +kernel
theorem dX4_sign_17 : decode cX4_sign 17 = .ok (.aload_n 0, 1) := by decide +kernel
theorem dX4_sign_18 : decode cX4_sign 18 = .ok (.invokevirtual 113, 3) := by decide +kernel
theorem dX4_sign_21 : decode cX4_sign 21 = .ok (.aload_n 0, 1) := by decide +kernel
theorem dX4_sign_22 : decode cX4_sign 22 = .ok (.iload_n 1, 1) := by decide +kernel
theorem dX4_sign_23 : decode cX4_sign 23 = .ok (.iload_n 2, 1) := by decide +kernel
theorem dX4_sign_24 : decode cX4_sign 24 = .ok (.iload_n 3, 1) := by decide +kernel
theorem dX4_sign_25 : decode cX4_sign 25 = .ok (.invokevirtual 129, 3) := by decide +kernel
theorem dX4_sign_28 : decode cX4_sign 28 = .ok (.ireturn, 1) := by decide +kernel
theorem dX4_cancel_0 : decode cX4_cancel 0 = .ok (.aload_n 0, 1) := by decide +kernel
theorem dX4_cancel_1 : decode cX4_cancel 1 = .ok (.iload_n 1, 1) := by decide +kernel
theorem dX4_cancel_2 : decode cX4_cancel 2 = .ok (.invokevirtual 132, 3) := by decide +kernel
theorem dX4_cancel_5 : decode cX4_cancel 5 = .ok (.ifCond .ne 5, 3) := by decide +kernel
theorem dX4_cancel_8 : decode cX4_cancel 8 = .ok (.iconst (-1), 1) := by decide +kernel
theorem dX4_cancel_9 : decode cX4_cancel 9 = .ok (.ireturn, 1) := by decide +kernel
theorem dX4_cancel_10 : decode cX4_cancel 10 = .ok (.aload_n 0, 1) := by decide +kernel
theorem dX4_cancel_11 : decode cX4_cancel 11 = .ok (.invokevirtual 113, 3) := by decide +kernel
theorem dX4_cancel_14 : decode cX4_cancel 14 = .ok (.aload_n 0, 1) := by decide +kernel
theorem dX4_cancel_15 : decode cX4_cancel 15 = .ok (.getfield 7, 3) := by decide +kernel
theorem dX4_cancel_18 : decode cX4_cancel 18 = .ok (.iconst 2, 1) := by decide +kernel
theorem dX4_cancel_19 : decode cX4_cancel 19 = .ok (.dup2, 1) := by decide +kernel
theorem dX4_cancel_20 : decode cX4_cancel 20 = .ok (.iaload, 1) := by decide +kernel
theorem dX4_cancel_21 : decode cX4_cancel 21 = .ok (.iconst 1, 1) := by decide +kernel
theorem dX4_cancel_22 : decode cX4_cancel 22 = .ok (.isub, 1) := by decide +kernel
theorem dX4_cancel_23 : decode cX4_cancel 23 = .ok (.iastore, 1) := by decide +kernel
theorem dX4_cancel_24 : decode cX4_cancel 24 = .ok (.bipush 39, 2) := by decide +kernel
theorem dX4_cancel_26 : decode cX4_cancel 26 = .ok (.iconst 4, 1) := by decide +kernel
theorem dX4_cancel_27 : decode cX4_cancel 27 = .ok (.iload_n 1, 1) := by decide +kernel
theorem dX4_cancel_28 : decode cX4_cancel 28 = .ok (.imul, 1) := by decide +kernel
theorem dX4_cancel_29 : decode cX4_cancel 29 = .ok (.iadd, 1) := by decide +kernel
theorem dX4_cancel_30 : decode cX4_cancel 30 = .ok (.istore_n 2, 1) := by decide +kernel
theorem dX4_cancel_31 : decode cX4_cancel 31 = .ok (.iload_n 2, 1) := by decide +kernel
theorem dX4_cancel_32 : decode cX4_cancel 32 = .ok (.bipush 95, 2) := by decide +kernel
theorem dX4_cancel_34 : decode cX4_cancel 34 = .ok (.if_icmp .ge 35, 3) := by decide +kernel
theorem dX4_cancel_37 : decode cX4_cancel 37 = .ok (.aload_n 0, 1) := by decide +kernel
theorem dX4_cancel_38 : decode cX4_cancel 38 = .ok (.getfield 7, 3) := by decide +kernel
theorem dX4_cancel_41 : decode cX4_cancel 41 = .ok (.iload_n 2, 1) := by decide +kernel
theorem dX4_cancel_42 : decode cX4_cancel 42 = .ok (.iload_n 2, 1) := by decide +kernel
theorem dX4_cancel_43 : decode cX4_cancel 43 = .ok (.iconst 4, 1) := by decide +kernel
theorem dX4_cancel_44 : decode cX4_cancel 44 = .ok (.iadd, 1) := by decide +kernel
theorem dX4_cancel_45 : decode cX4_cancel 45 = .ok (.bipush 95, 2) := by decide +kernel
theorem dX4_cancel_47 : decode cX4_cancel 47 = .ok (.if_icmp .ge 14, 3) := by decide +kernel
theorem dX4_cancel_50 : decode cX4_cancel 50 = .ok (.aload_n 0, 1) := by decide +kernel
theorem dX4_cancel_51 : decode cX4_cancel 51 = .ok (.getfield 7, 3) := by decide +kernel
theorem dX4_cancel_54 : decode cX4_cancel 54 = .ok (.iload_n 2, 1) := by decide +kernel
theorem dX4_cancel_55 : decode cX4_cancel 55 = .ok (.iconst 4, 1) := by decide +kernel
theorem dX4_cancel_56 : decode cX4_cancel 56 = .ok (.iadd, 1) := by decide +kernel
theorem dX4_cancel_57 : decode cX4_cancel 57 = .ok (.iaload, 1) := by decide +kernel
theorem dX4_cancel_58 : decode cX4_cancel 58 = .ok (.goto 4, 3) := by decide +kernel
theorem dX4_cancel_61 : decode cX4_cancel 61 = .ok (.iconst 0, 1) := by decide +kernel
theorem dX4_cancel_62 : decode cX4_cancel 62 = .ok (.iastore, 1) := by decide +kernel
theorem dX4_cancel_63 : decode cX4_cancel 63 = .ok (.iinc 2 1, 3) := by decide +kernel
theorem dX4_cancel_66 : decode cX4_cancel 66 = .ok (.goto (-35), 3) := by decide +kernel
theorem dX4_cancel_69 : decode cX4_cancel 69 = .ok (.aload_n 0, 1) := by decide +kernel
theorem dX4_cancel_70 : decode cX4_cancel 70 = .ok (.getfield 7, 3) := by decide +kernel
theorem dX4_cancel_73 : decode cX4_cancel 73 = .ok (.iconst 2, 1) := by decide +kernel
theorem dX4_cancel_74 : decode cX4_cancel 74 = .ok (.iaload, 1) := by decide +kernel
theorem dX4_cancel_75 : decode cX4_cancel 75 = .ok (.ireturn, 1) := by decide +kernel
theorem dX4_freeze_0 : decode cX4_freeze 0 = .ok (.aload_n 0, 1) := by decide +kernel
theorem dX4_freeze_1 : decode cX4_freeze 1 = .ok (.iload_n 1, 1) := by decide +kernel
theorem dX4_freeze_2 : decode cX4_freeze 2 = .ok (.invokevirtual 132, 3) := by decide +kernel
theorem dX4_freeze_5 : decode cX4_freeze 5 = .ok (.ifCond .eq 13, 3) := by decide +kernel
theorem dX4_freeze_8 : decode cX4_freeze 8 = .ok (.iload_n 2, 1) := by decide +kernel
theorem dX4_freeze_9 : decode cX4_freeze 9 = .ok (.iconst 1, 1) := by decide +kernel
theorem dX4_freeze_10 : decode cX4_freeze 10 = .ok (.bipush 30, 2) := by decide +kernel
theorem dX4_freeze_12 : decode cX4_freeze 12 = .ok (.invokestatic 46, 3) := by decide +kernel
theorem dX4_freeze_15 : decode cX4_freeze 15 = .ok (.ifCond .ne 5, 3) := by decide +kernel
theorem dX4_freeze_18 : decode cX4_freeze 18 = .ok (.iconst (-1), 1) := by decide +kernel
theorem dX4_freeze_19 : decode cX4_freeze 19 = .ok (.ireturn, 1) := by decide +kernel
theorem dX4_freeze_20 : decode cX4_freeze 20 = .ok (.aload_n 0, 1) := by decide +kernel
theorem dX4_freeze_21 : decode cX4_freeze 21 = .ok (.invokevirtual 113, 3) := by decide +kernel
theorem dX4_freeze_24 : decode cX4_freeze 24 = .ok (.aload_n 0, 1) := by decide +kernel
theorem dX4_freeze_25 : decode cX4_freeze 25 = .ok (.getfield 7, 3) := by decide +kernel
theorem dX4_freeze_28 : decode cX4_freeze 28 = .ok (.iconst 1, 1) := by decide +kernel
theorem dX4_freeze_29 : decode cX4_freeze 29 = .ok (.dup2, 1) := by decide +kernel
theorem dX4_freeze_30 : decode cX4_freeze 30 = .ok (.iaload, 1) := by decide +kernel
theorem dX4_freeze_31 : decode cX4_freeze 31 = .ok (.aload_n 0, 1) := by decide +kernel
theorem dX4_freeze_32 : decode cX4_freeze 32 = .ok (.iload_n 1, 1) := by decide +kernel
theorem dX4_freeze_33 : decode cX4_freeze 33 = .ok (.invokevirtual 65, 3) := by decide +kernel
theorem dX4_freeze_36 : decode cX4_freeze 36 = .ok (.ifCond .eq 7, 3) := by decide +kernel
theorem dX4_freeze_39 : decode cX4_freeze 39 = .ok (.iconst 1, 1) := by decide +kernel
theorem dX4_freeze_40 : decode cX4_freeze 40 = .ok (.goto 4, 3) := by decide +kernel
theorem dX4_freeze_43 : decode cX4_freeze 43 = .ok (.iconst 0, 1) := by decide +kernel
theorem dX4_freeze_44 : decode cX4_freeze 44 = .ok (.iadd, 1) := by decide +kernel
theorem dX4_freeze_45 : decode cX4_freeze 45 = .ok (.iastore, 1) := by decide +kernel
theorem dX4_freeze_46 : decode cX4_freeze 46 = .ok (.aload_n 0, 1) := by decide +kernel
theorem dX4_freeze_47 : decode cX4_freeze 47 = .ok (.iload_n 1, 1) := by decide +kernel
theorem dX4_freeze_48 : decode cX4_freeze 48 = .ok (.iconst 3, 1) := by decide +kernel
theorem dX4_freeze_49 : decode cX4_freeze 49 = .ok (.aload_n 0, 1) := by decide +kernel
theorem dX4_freeze_50 : decode cX4_freeze 50 = .ok (.getfield 7, 3) := by decide +kernel
theorem dX4_freeze_53 : decode cX4_freeze 53 = .ok (.iconst 0, 1) := by decide +kernel
theorem dX4_freeze_54 : decode cX4_freeze 54 = .ok (.iaload, 1) := by decide +kernel
theorem dX4_freeze_55 : decode cX4_freeze 55 = .ok (.iload_n 2, 1) := by decide +kernel
theorem dX4_freeze_56 : decode cX4_freeze 56 = .ok (.iadd, 1) := by decide +kernel
theorem dX4_freeze_57 : decode cX4_freeze 57 = .ok (.invokevirtual 100, 3) := by decide +kernel
theorem dX4_freeze_60 : decode cX4_freeze 60 = .ok (.aload_n 0, 1) := by decide +kernel
theorem dX4_freeze_61 : decode cX4_freeze 61 = .ok (.getfield 7, 3) := by decide +kernel
theorem dX4_freeze_64 : decode cX4_freeze 64 = .ok (.iconst 1, 1) := by decide +kernel
theorem dX4_freeze_65 : decode cX4_freeze 65 = .ok (.iaload, 1) := by decide +kernel
theorem dX4_freeze_66 : decode cX4_freeze 66 = .ok (.ireturn, 1) := by decide +kernel
theorem dX4_thaw_0 : decode cX4_thaw 0 = .ok (.aload_n 0, 1) := by decide +kernel
theorem dX4_thaw_1 : decode cX4_thaw 1 = .ok (.iload_n 1, 1) := by decide +kernel
theorem dX4_thaw_2 : decode cX4_thaw 2 = .ok (.invokevirtual 132, 3) := by decide +kernel
theorem dX4_thaw_5 : decode cX4_thaw 5 = .ok (.ifCond .ne 5, 3) := by decide +kernel
theorem dX4_thaw_8 : decode cX4_thaw 8 = .ok (.iconst (-1), 1) := by decide +kernel
theorem dX4_thaw_9 : decode cX4_thaw 9 = .ok (.ireturn, 1) := by decide +kernel
theorem dX4_thaw_10 : decode cX4_thaw 10 = .ok (.aload_n 0, 1) := by decide +kernel
theorem dX4_thaw_11 : decode cX4_thaw 11 = .ok (.invokevirtual 113, 3) := by decide +kernel
theorem dX4_thaw_14 : decode cX4_thaw 14 = .ok (.aload_n 0, 1) := by decide +kernel
theorem dX4_thaw_15 : decode cX4_thaw 15 = .ok (.iload_n 1, 1) := by decide +kernel
theorem dX4_thaw_16 : decode cX4_thaw 16 = .ok (.iconst 3, 1) := by decide +kernel
theorem dX4_thaw_17 : decode cX4_thaw 17 = .ok (.invokevirtual 54, 3) := by decide +kernel
theorem dX4_thaw_20 : decode cX4_thaw 20 = .ok (.aload_n 0, 1) := by decide +kernel
theorem dX4_thaw_21 : decode cX4_thaw 21 = .ok (.getfield 7, 3) := by decide +kernel
theorem dX4_thaw_24 : decode cX4_thaw 24 = .ok (.iconst 0, 1) := by decide +kernel
theorem dX4_thaw_25 : decode cX4_thaw 25 = .ok (.iaload, 1) := by decide +kernel
theorem dX4_thaw_26 : decode cX4_thaw 26 = .ok (.isub, 1) := by decide +kernel
theorem dX4_thaw_27 : decode cX4_thaw 27 = .ok (.istore_n 2, 1) := by decide +kernel
theorem dX4_thaw_28 : decode cX4_thaw 28 = .ok (.iload_n 2, 1) := by decide +kernel
theorem dX4_thaw_29 : decode cX4_thaw 29 = .ok (.ifCond .le 13, 3) := by decide +kernel
theorem dX4_thaw_32 : decode cX4_thaw 32 = .ok (.iload_n 2, 1) := by decide +kernel
theorem dX4_thaw_33 : decode cX4_thaw 33 = .ok (.aload_n 0, 1) := by decide +kernel
theorem dX4_thaw_34 : decode cX4_thaw 34 = .ok (.getfield 7, 3) := by decide +kernel
theorem dX4_thaw_37 : decode cX4_thaw 37 = .ok (.iconst 1, 1) := by decide +kernel
theorem dX4_thaw_38 : decode cX4_thaw 38 = .ok (.iaload, 1) := by decide +kernel
theorem dX4_thaw_39 : decode cX4_thaw 39 = .ok (.if_icmp .le 18, 3) := by decide +kernel
theorem dX4_thaw_42 : decode cX4_thaw 42 = .ok (.aload_n 0, 1) := by decide +kernel
theorem dX4_thaw_43 : decode cX4_thaw 43 = .ok (.iload_n 2, 1) := by decide +kernel
theorem dX4_thaw_44 : decode cX4_thaw 44 = .ok (.ifCond .gt 7, 3) := by decide +kernel
theorem dX4_thaw_47 : decode cX4_thaw 47 = .ok (.iconst 5, 1) := by decide +kernel
theorem dX4_thaw_48 : decode cX4_thaw 48 = .ok (.goto 5, 3) := by decide +kernel
theorem dX4_thaw_51 : decode cX4_thaw 51 = .ok (.bipush 6, 2) := by decide +kernel
theorem dX4_thaw_53 : decode cX4_thaw 53 = .ok (.invokevirtual 97, 3) := by decide +kernel
theorem dX4_thaw_56 : decode cX4_thaw 56 = .ok (.ireturn, 1) := by decide +kernel
theorem dX4_thaw_57 : decode cX4_thaw 57 = .ok (.aload_n 0, 1) := by decide +kernel
theorem dX4_thaw_58 : decode cX4_thaw 58 = .ok (.iload_n 1, 1) := by decide +kernel
theorem dX4_thaw_59 : decode cX4_thaw 59 = .ok (.iconst 3, 1) := by decide +kernel
theorem dX4_thaw_60 : decode cX4_thaw 60 = .ok (.aload_n 0, 1) := by decide +kernel
theorem dX4_thaw_61 : decode cX4_thaw 61 = .ok (.getfield 7, 3) := by decide +kernel
theorem dX4_thaw_64 : decode cX4_thaw 64 = .ok (.iconst 0, 1) := by decide +kernel
theorem dX4_thaw_65 : decode cX4_thaw 65 = .ok (.iaload, 1) := by decide +kernel
theorem dX4_thaw_66 : decode cX4_thaw 66 = .ok (.invokevirtual 100, 3) := by decide +kernel
theorem dX4_thaw_69 : decode cX4_thaw 69 = .ok (.aload_n 0, 1) := by decide +kernel
theorem dX4_thaw_70 : decode cX4_thaw 70 = .ok (.getfield 7, 3) := by decide +kernel
theorem dX4_thaw_73 : decode cX4_thaw 73 = .ok (.iconst 1, 1) := by decide +kernel
theorem dX4_thaw_74 : decode cX4_thaw 74 = .ok (.dup2, 1) := by decide +kernel
theorem dX4_thaw_75 : decode cX4_thaw 75 = .ok (.iaload, 1) := by decide +kernel
theorem dX4_thaw_76 : decode cX4_thaw 76 = .ok (.iload_n 2, 1) := by decide +kernel
theorem dX4_thaw_77 : decode cX4_thaw 77 = .ok (.isub, 1) := by decide +kernel
theorem dX4_thaw_78 : decode cX4_thaw 78 = .ok (.iastore, 1) := by decide +kernel
theorem dX4_thaw_79 : decode cX4_thaw 79 = .ok (.bipush 10, 2) := by decide +kernel
theorem dX4_thaw_81 : decode cX4_thaw 81 = .ok (.aload_n 0, 1) := by decide +kernel
theorem dX4_thaw_82 : decode cX4_thaw 82 = .ok (.getfield 7, 3) := by decide +kernel
theorem dX4_thaw_85 : decode cX4_thaw 85 = .ok (.iconst 1, 1) := by decide +kernel
theorem dX4_thaw_86 : decode cX4_thaw 86 = .ok (.iaload, 1) := by decide +kernel
theorem dX4_thaw_87 : decode cX4_thaw 87 = .ok (.iadd, 1) := by decide +kernel
theorem dX4_thaw_88 : decode cX4_thaw 88 = .ok (.ireturn, 1) := by decide +kernel
theorem dX4_append_0 : decode cX4_append 0 = .ok (.iload_n 1, 1) := by decide +kernel
theorem dX4_append_1 : decode cX4_append 1 = .ok (.bipush 33, 2) := by decide +kernel
theorem dX4_append_3 : decode cX4_append 3 = .ok (.bipush 126, 2) := by decide +kernel
theorem dX4_append_5 : decode cX4_append 5 = .ok (.invokestatic 46, 3) := by decide +kernel
theorem dX4_append_8 : decode cX4_append 8 = .ok (.ifCond .ne 5, 3) := by decide +kernel
theorem dX4_append_11 : decode cX4_append 11 = .ok (.iconst (-1), 1) := by decide +kernel
theorem dX4_append_12 : decode cX4_append 12 = .ok (.ireturn, 1) := by decide +kernel
theorem dX4_append_13 : decode cX4_append 13 = .ok (.aload_n 0, 1) := by decide +kernel
theorem dX4_append_14 : decode cX4_append 14 = .ok (.getfield 135, 3) := by decide +kernel
theorem dX4_append_17 : decode cX4_append 17 = .ok (.bipush 60, 2) := by decide +kernel
theorem dX4_append_19 : decode cX4_append 19 = .ok (.if_icmp .ne 6, 3) := by decide +kernel
theorem dX4_append_22 : decode cX4_append 22 = .ok (.bipush (-3), 2) := by decide +kernel
theorem dX4_append_24 : decode cX4_append 24 = .ok (.ireturn, 1) := by decide +kernel
theorem dX4_append_25 : decode cX4_append 25 = .ok (.aload_n 0, 1) := by decide +kernel
theorem dX4_append_26 : decode cX4_append 26 = .ok (.getfield 22, 3) := by decide +kernel
theorem dX4_append_29 : decode cX4_append 29 = .ok (.aload_n 0, 1) := by decide +kernel
theorem dX4_append_30 : decode cX4_append 30 = .ok (.getfield 135, 3) := by decide +kernel
theorem dX4_append_33 : decode cX4_append 33 = .ok (.iload_n 1, 1) := by decide +kernel
theorem dX4_append_34 : decode cX4_append 34 = .ok (.iastore, 1) := by decide +kernel
theorem dX4_append_35 : decode cX4_append 35 = .ok (.aload_n 0, 1) := by decide +kernel
theorem dX4_append_36 : decode cX4_append 36 = .ok (.dup, 1) := by decide +kernel
theorem dX4_append_37 : decode cX4_append 37 = .ok (.getfield 135, 3) := by decide +kernel
theorem dX4_append_40 : decode cX4_append 40 = .ok (.iconst 1, 1) := by decide +kernel
theorem dX4_append_41 : decode cX4_append 41 = .ok (.iadd, 1) := by decide +kernel
theorem dX4_append_42 : decode cX4_append 42 = .ok (.putfield 135, 3) := by decide +kernel
theorem dX4_append_45 : decode cX4_append 45 = .ok (.aload_n 0, 1) := by decide +kernel
theorem dX4_append_46 : decode cX4_append 46 = .ok (.getfield 135, 3) := by decide +kernel
theorem dX4_append_49 : decode cX4_append 49 = .ok (.ireturn, 1) := by decide +kernel
theorem dX4_clear_0 : decode cX4_clear 0 = .ok (.aload_n 0, 1) := by decide +kernel
theorem dX4_clear_1 : decode cX4_clear 1 = .ok (.getfield 135, 3) := by decide +kernel
theorem dX4_clear_4 : decode cX4_clear 4 = .ok (.istore_n 1, 1) := by decide +kernel
theorem dX4_clear_5 : decode cX4_clear 5 = .ok (.aload_n 0, 1) := by decide +kernel
theorem dX4_clear_6 : decode cX4_clear 6 = .ok (.iconst 0, 1) := by decide +kernel
theorem dX4_clear_7 : decode cX4_clear 7 = .ok (.putfield 135, 3) := by decide +kernel
theorem dX4_clear_10 : decode cX4_clear 10 = .ok (.iload_n 1, 1) := by decide +kernel
theorem dX4_clear_11 : decode cX4_clear 11 = .ok (.ireturn, 1) := by decide +kernel
theorem dX4_here_0 : decode cX4_here 0 = .ok (.aload_n 0, 1) := by decide +kernel
theorem dX4_here_1 : decode cX4_here 1 = .ok (.getfield 138, 3) := by decide +kernel
theorem dX4_here_4 : decode cX4_here 4 = .ok (.aload_n 0, 1) := by decide +kernel
theorem dX4_here_5 : decode cX4_here 5 = .ok (.getfield 135, 3) := by decide +kernel
theorem dX4_here_8 : decode cX4_here 8 = .ok (.if_icmp .ge 15, 3) := by decide +kernel
theorem dX4_here_11 : decode cX4_here 11 = .ok (.aload_n 0, 1) := by decide +kernel
theorem dX4_here_12 : decode cX4_here 12 = .ok (.getfield 22, 3) := by decide +kernel
theorem dX4_here_15 : decode cX4_here 15 = .ok (.aload_n 0, 1) := by decide +kernel
theorem dX4_here_16 : decode cX4_here 16 = .ok (.getfield 138, 3) := by decide +kernel
theorem dX4_here_19 : decode cX4_here 19 = .ok (.iaload, 1) := by decide +kernel
theorem dX4_here_20 : decode cX4_here 20 = .ok (.goto 4, 3) := by decide +kernel
theorem dX4_here_23 : decode cX4_here 23 = .ok (.iconst 0, 1) := by decide +kernel
theorem dX4_here_24 : decode cX4_here 24 = .ok (.ireturn, 1) := by decide +kernel
theorem dX4_takes_0 : decode cX4_takes 0 = .ok (.aload_n 0, 1) := by decide +kernel
theorem dX4_takes_1 : decode cX4_takes 1 = .ok (.aload_n 0, 1) := by decide +kernel
theorem dX4_takes_2 : decode cX4_takes 2 = .ok (.getfield 141, 3) := by decide +kernel
theorem dX4_takes_5 : decode cX4_takes 5 = .ok (.ifCond .eq 11, 3) := by decide +kernel
theorem dX4_takes_8 : decode cX4_takes 8 = .ok (.iload_n 1, 1) := by decide +kernel
theorem dX4_takes_9 : decode cX4_takes 9 = .ok (.ifCond .eq 7, 3) := by decide +kernel
theorem dX4_takes_12 : decode cX4_takes 12 = .ok (.iconst 1, 1) := by decide +kernel
theorem dX4_takes_13 : decode cX4_takes 13 = .ok (.goto 4, 3) := by decide +kernel
theorem dX4_takes_16 : decode cX4_takes 16 = .ok (.iconst 0, 1) := by decide +kernel
theorem dX4_takes_17 : decode cX4_takes 17 = .ok (.putfield 141, 3) := by decide +kernel
theorem dX4_takes_20 : decode cX4_takes 20 = .ok (.aload_n 0, 1) := by decide +kernel
theorem dX4_takes_21 : decode cX4_takes 21 = .ok (.dup, 1) := by decide +kernel
theorem dX4_takes_22 : decode cX4_takes 22 = .ok (.getfield 138, 3) := by decide +kernel
theorem dX4_takes_25 : decode cX4_takes 25 = .ok (.aload_n 0, 1) := by decide +kernel
theorem dX4_takes_26 : decode cX4_takes 26 = .ok (.getfield 141, 3) := by decide +kernel
theorem dX4_takes_29 : decode cX4_takes 29 = .ok (.ifCond .eq 7, 3) := by decide +kernel
theorem dX4_takes_32 : decode cX4_takes 32 = .ok (.iconst 1, 1) := by decide +kernel
theorem dX4_takes_33 : decode cX4_takes 33 = .ok (.goto 4, 3) := by decide +kernel
theorem dX4_takes_36 : decode cX4_takes 36 = .ok (.iconst 0, 1) := by decide +kernel
theorem dX4_takes_37 : decode cX4_takes 37 = .ok (.iadd, 1) := by decide +kernel
theorem dX4_takes_38 : decode cX4_takes 38 = .ok (.putfield 138, 3) := by decide +kernel
theorem dX4_takes_41 : decode cX4_takes 41 = .ok (.return_, 1) := by decide +kernel
theorem dX4_takesDigit_0 : decode cX4_takesDigit 0 = .ok (.aload_n 0, 1) := by decide +kernel
theorem dX4_takesDigit_1 : decode cX4_takesDigit 1 = .ok (.invokevirtual 145, 3) := by decide +kernel
theorem dX4_takesDigit_4 : decode cX4_takesDigit 4 = .ok (.bipush 48, 2) := by decide +kernel
theorem dX4_takesDigit_6 : decode cX4_takesDigit 6 = .ok (.isub, 1) := by decide +kernel
theorem dX4_takesDigit_7 : decode cX4_takesDigit 7 = .ok (.istore_n 3, 1) := by decide +kernel
theorem dX4_takesDigit_8 : decode cX4_takesDigit 8 = .ok (.aload_n 0, 1) := by decide +kernel
theorem dX4_takesDigit_9 : decode cX4_takesDigit 9 = .ok (.iload_n 3, 1) := by decide +kernel
theorem dX4_takesDigit_10 : decode cX4_takesDigit 10 = .ok (.iload_n 1, 1) := by decide +kernel
theorem dX4_takesDigit_11 : decode cX4_takesDigit 11 = .ok (.iload_n 2, 1) := by decide +kernel
theorem dX4_takesDigit_12 : decode cX4_takesDigit 12 = .ok (.invokestatic 46, 3) := by decide +kernel
theorem dX4_takesDigit_15 : decode cX4_takesDigit 15 = .ok (.invokevirtual 148, 3) := by decide +kernel
theorem dX4_takesDigit_18 : decode cX4_takesDigit 18 = .ok (.iload_n 3, 1) := by decide +kernel
theorem dX4_takesDigit_19 : decode cX4_takesDigit 19 = .ok (.ireturn, 1) := by decide +kernel
theorem dX4_takesNumber_0 : decode cX4_takesNumber 0 = .ok (.aload_n 0, 1) := by decide +kernel
theorem dX4_takesNumber_1 : decode cX4_takesNumber 1 = .ok (.iconst 1, 1) := by decide +kernel
theorem dX4_takesNumber_2 : decode cX4_takesNumber 2 = .ok (.bipush 9, 2) := by decide +kernel
theorem dX4_takesNumber_4 : decode cX4_takesNumber 4 = .ok (.invokevirtual 152, 3) := by decide +kernel
theorem dX4_takesNumber_7 : decode cX4_takesNumber 7 = .ok (.istore_n 2, 1) := by decide +kernel
theorem dX4_takesNumber_8 : decode cX4_takesNumber 8 = .ok (.bipush 10, 2) := by decide +kernel
theorem dX4_takesNumber_10 : decode cX4_takesNumber 10 = .ok (.iload_n 2, 1) := by decide +kernel
theorem dX4_takesNumber_11 : decode cX4_takesNumber 11 = .ok (.imul, 1) := by decide +kernel
theorem dX4_takesNumber_12 : decode cX4_takesNumber 12 = .ok (.aload_n 0, 1) := by decide +kernel
theorem dX4_takesNumber_13 : decode cX4_takesNumber 13 = .ok (.invokevirtual 145, 3) := by decide +kernel
theorem dX4_takesNumber_16 : decode cX4_takesNumber 16 = .ok (.iadd, 1) := by decide +kernel
theorem dX4_takesNumber_17 : decode cX4_takesNumber 17 = .ok (.bipush 48, 2) := by decide +kernel
theorem dX4_takesNumber_19 : decode cX4_takesNumber 19 = .ok (.isub, 1) := by decide +kernel
theorem dX4_takesNumber_20 : decode cX4_takesNumber 20 = .ok (.istore_n 3, 1) := by decide +kernel
theorem dX4_takesNumber_21 : decode cX4_takesNumber 21 = .ok (.aload_n 0, 1) := by decide +kernel
theorem dX4_takesNumber_22 : decode cX4_takesNumber 22 = .ok (.getfield 141, 3) := by decide +kernel
theorem dX4_takesNumber_25 : decode cX4_takesNumber 25 = .ok (.ifCond .eq 26, 3) := by decide +kernel
theorem dX4_takesNumber_28 : decode cX4_takesNumber 28 = .ok (.aload_n 0, 1) := by decide +kernel
theorem dX4_takesNumber_29 : decode cX4_takesNumber 29 = .ok (.invokevirtual 145, 3) := by decide +kernel
theorem dX4_takesNumber_32 : decode cX4_takesNumber 32 = .ok (.bipush 48, 2) := by decide +kernel
theorem dX4_takesNumber_34 : decode cX4_takesNumber 34 = .ok (.bipush 57, 2) := by decide +kernel
theorem dX4_takesNumber_36 : decode cX4_takesNumber 36 = .ok (.invokestatic 46, 3) := by decide +kernel
theorem dX4_takesNumber_39 : decode cX4_takesNumber 39 = .ok (.ifCond .eq 12, 3) := by decide +kernel
theorem dX4_takesNumber_42 : decode cX4_takesNumber 42 = .ok (.iload_n 3, 1) := by decide +kernel
theorem dX4_takesNumber_43 : decode cX4_takesNumber 43 = .ok (.iload_n 1, 1) := by decide +kernel
theorem dX4_takesNumber_44 : decode cX4_takesNumber 44 = .ok (.if_icmp .gt 7, 3) := by decide +kernel
theorem dX4_takesNumber_47 : decode cX4_takesNumber 47 = .ok (.iconst 1, 1) := by decide +kernel
theorem dX4_takesNumber_48 : decode cX4_takesNumber 48 = .ok (.goto 4, 3) := by decide +kernel
theorem dX4_takesNumber_51 : decode cX4_takesNumber 51 = .ok (.iconst 0, 1) := by decide +kernel
theorem dX4_takesNumber_52 : decode cX4_takesNumber 52 = .ok (.istore 4, 2) := by decide +kernel
theorem dX4_takesNumber_54 : decode cX4_takesNumber 54 = .ok (.aload_n 0, 1) := by decide +kernel
theorem dX4_takesNumber_55 : decode cX4_takesNumber 55 = .ok (.dup, 1) := by decide +kernel
theorem dX4_takesNumber_56 : decode cX4_takesNumber 56 = .ok (.getfield 138, 3) := by decide +kernel
theorem dX4_takesNumber_59 : decode cX4_takesNumber 59 = .ok (.iload 4, 2) := by decide +kernel
theorem dX4_takesNumber_61 : decode cX4_takesNumber 61 = .ok (.ifCond .eq 7, 3) := by decide +kernel
theorem dX4_takesNumber_64 : decode cX4_takesNumber 64 = .ok (.iconst 1, 1) := by decide +kernel
theorem dX4_takesNumber_65 : decode cX4_takesNumber 65 = .ok (.goto 4, 3) := by decide +kernel
theorem dX4_takesNumber_68 : decode cX4_takesNumber 68 = .ok (.iconst 0, 1) := by decide +kernel
theorem dX4_takesNumber_69 : decode cX4_takesNumber 69 = .ok (.iadd, 1) := by decide +kernel
theorem dX4_takesNumber_70 : decode cX4_takesNumber 70 = .ok (.putfield 138, 3) := by decide +kernel
theorem dX4_takesNumber_73 : decode cX4_takesNumber 73 = .ok (.iload 4, 2) := by decide +kernel
theorem dX4_takesNumber_75 : decode cX4_takesNumber 75 = .ok (.ifCond .eq 7, 3) := by decide +kernel
theorem dX4_takesNumber_78 : decode cX4_takesNumber 78 = .ok (.iload_n 3, 1) := by decide +kernel
theorem dX4_takesNumber_79 : decode cX4_takesNumber 79 = .ok (.goto 4, 3) := by decide +kernel
theorem dX4_takesNumber_82 : decode cX4_takesNumber 82 = .ok (.iload_n 2, 1) := by decide +kernel
theorem dX4_takesNumber_83 : decode cX4_takesNumber 83 = .ok (.ireturn, 1) := by decide +kernel
theorem dX4_takesPart_0 : decode cX4_takesPart 0 = .ok (.aload_n 0, 1) := by decide +kernel
theorem dX4_takesPart_1 : decode cX4_takesPart 1 = .ok (.aload_n 0, 1) := by decide +kernel
theorem dX4_takesPart_2 : decode cX4_takesPart 2 = .ok (.iconst 0, 1) := by decide +kernel
theorem dX4_takesPart_3 : decode cX4_takesPart 3 = .ok (.bipush 7, 2) := by decide +kernel
theorem dX4_takesPart_5 : decode cX4_takesPart 5 = .ok (.invokevirtual 152, 3) := by decide +kernel
theorem dX4_takesPart_8 : decode cX4_takesPart 8 = .ok (.putfield 155, 3) := by decide +kernel
theorem dX4_takesPart_11 : decode cX4_takesPart 11 = .ok (.aload_n 0, 1) := by decide +kernel
theorem dX4_takesPart_12 : decode cX4_takesPart 12 = .ok (.aload_n 0, 1) := by decide +kernel
theorem dX4_takesPart_13 : decode cX4_takesPart 13 = .ok (.invokevirtual 145, 3) := by decide +kernel
theorem dX4_takesPart_16 : decode cX4_takesPart 16 = .ok (.bipush 60, 2) := by decide +kernel
theorem dX4_takesPart_18 : decode cX4_takesPart 18 = .ok (.if_icmp .ne 7, 3) := by decide +kernel
theorem dX4_takesPart_21 : decode cX4_takesPart 21 = .ok (.iconst 1, 1) := by decide +kernel
theorem dX4_takesPart_22 : decode cX4_takesPart 22 = .ok (.goto 4, 3) := by decide +kernel
theorem dX4_takesPart_25 : decode cX4_takesPart 25 = .ok (.iconst 0, 1) := by decide +kernel
theorem dX4_takesPart_26 : decode cX4_takesPart 26 = .ok (.invokevirtual 148, 3) := by decide +kernel
theorem dX4_takesPart_29 : decode cX4_takesPart 29 = .ok (.aload_n 0, 1) := by decide +kernel
theorem dX4_takesPart_30 : decode cX4_takesPart 30 = .ok (.aload_n 0, 1) := by decide +kernel
theorem dX4_takesPart_31 : decode cX4_takesPart 31 = .ok (.iconst 0, 1) := by decide +kernel
theorem dX4_takesPart_32 : decode cX4_takesPart 32 = .ok (.bipush 7, 2) := by decide +kernel
theorem dX4_takesPart_34 : decode cX4_takesPart 34 = .ok (.invokevirtual 152, 3) := by decide +kernel
theorem dX4_takesPart_37 : decode cX4_takesPart 37 = .ok (.putfield 158, 3) := by decide +kernel
theorem dX4_takesPart_40 : decode cX4_takesPart 40 = .ok (.aload_n 0, 1) := by decide +kernel
theorem dX4_takesPart_41 : decode cX4_takesPart 41 = .ok (.iconst 0, 1) := by decide +kernel
theorem dX4_takesPart_42 : decode cX4_takesPart 42 = .ok (.putfield 161, 3) := by decide +kernel
theorem dX4_takesPart_45 : decode cX4_takesPart 45 = .ok (.aload_n 0, 1) := by decide +kernel
theorem dX4_takesPart_46 : decode cX4_takesPart 46 = .ok (.invokevirtual 145, 3) := by decide +kernel
theorem dX4_takesPart_49 : decode cX4_takesPart 49 = .ok (.bipush 43, 2) := by decide +kernel
theorem dX4_takesPart_51 : decode cX4_takesPart 51 = .ok (.if_icmp .ne 7, 3) := by decide +kernel
theorem dX4_takesPart_54 : decode cX4_takesPart 54 = .ok (.iconst 1, 1) := by decide +kernel
theorem dX4_takesPart_55 : decode cX4_takesPart 55 = .ok (.goto 4, 3) := by decide +kernel
theorem dX4_takesPart_58 : decode cX4_takesPart 58 = .ok (.iconst 0, 1) := by decide +kernel
theorem dX4_takesPart_59 : decode cX4_takesPart 59 = .ok (.istore_n 1, 1) := by decide +kernel
theorem dX4_takesPart_60 : decode cX4_takesPart 60 = .ok (.aload_n 0, 1) := by decide +kernel
theorem dX4_takesPart_61 : decode cX4_takesPart 61 = .ok (.getfield 141, 3) := by decide +kernel
theorem dX4_takesPart_64 : decode cX4_takesPart 64 = .ok (.ifCond .eq 50, 3) := by decide +kernel
theorem dX4_takesPart_67 : decode cX4_takesPart 67 = .ok (.iload_n 1, 1) := by decide +kernel
theorem dX4_takesPart_68 : decode cX4_takesPart 68 = .ok (.ifCond .ne 12, 3) := by decide +kernel
theorem dX4_takesPart_71 : decode cX4_takesPart 71 = .ok (.aload_n 0, 1) := by decide +kernel
theorem dX4_takesPart_72 : decode cX4_takesPart 72 = .ok (.invokevirtual 145, 3) := by decide +kernel
theorem dX4_takesPart_75 : decode cX4_takesPart 75 = .ok (.bipush 45, 2) := by decide +kernel
theorem dX4_takesPart_77 : decode cX4_takesPart 77 = .ok (.if_icmp .ne 37, 3) := by decide +kernel
theorem dX4_takesPart_80 : decode cX4_takesPart 80 = .ok (.aload_n 0, 1) := by decide +kernel
theorem dX4_takesPart_81 : decode cX4_takesPart 81 = .ok (.dup, 1) := by decide +kernel
theorem dX4_takesPart_82 : decode cX4_takesPart 82 = .ok (.getfield 138, 3) := by decide +kernel
theorem dX4_takesPart_85 : decode cX4_takesPart 85 = .ok (.iconst 1, 1) := by decide +kernel
theorem dX4_takesPart_86 : decode cX4_takesPart 86 = .ok (.iadd, 1) := by decide +kernel
theorem dX4_takesPart_87 : decode cX4_takesPart 87 = .ok (.putfield 138, 3) := by decide +kernel
theorem dX4_takesPart_90 : decode cX4_takesPart 90 = .ok (.aload_n 0, 1) := by decide +kernel
theorem dX4_takesPart_91 : decode cX4_takesPart 91 = .ok (.iload_n 1, 1) := by decide +kernel
theorem dX4_takesPart_92 : decode cX4_takesPart 92 = .ok (.ifCond .eq 12, 3) := by decide +kernel
theorem dX4_takesPart_95 : decode cX4_takesPart 95 = .ok (.aload_n 0, 1) := by decide +kernel
theorem dX4_takesPart_96 : decode cX4_takesPart 96 = .ok (.bipush 60, 2) := by decide +kernel
theorem dX4_takesPart_98 : decode cX4_takesPart 98 = .ok (.invokevirtual 164, 3) := by decide +kernel
theorem dX4_takesPart_101 : decode cX4_takesPart 101 = .ok (.goto 10, 3) := by decide +kernel
theorem dX4_takesPart_104 : decode cX4_takesPart 104 = .ok (.aload_n 0, 1) := by decide +kernel
theorem dX4_takesPart_105 : decode cX4_takesPart 105 = .ok (.bipush 30, 2) := by decide +kernel
theorem dX4_takesPart_107 : decode cX4_takesPart 107 = .ok (.invokevirtual 164, 3) := by decide +kernel
theorem dX4_takesPart_110 : decode cX4_takesPart 110 = .ok (.ineg, 1) := by decide +kernel
theorem dX4_takesPart_111 : decode cX4_takesPart 111 = .ok (.putfield 161, 3) := by decide +kernel
theorem dX4_takesPart_114 : decode cX4_takesPart 114 = .ok (.return_, 1) := by decide +kernel
theorem dX4_isText_0 : decode cX4_isText 0 = .ok (.aload_n 0, 1) := by decide +kernel
theorem dX4_isText_1 : decode cX4_isText 1 = .ok (.iconst 0, 1) := by decide +kernel
theorem dX4_isText_2 : decode cX4_isText 2 = .ok (.putfield 138, 3) := by decide +kernel
theorem dX4_isText_5 : decode cX4_isText 5 = .ok (.aload_n 0, 1) := by decide +kernel
theorem dX4_isText_6 : decode cX4_isText 6 = .ok (.iconst 1, 1) := by decide +kernel
theorem dX4_isText_7 : decode cX4_isText 7 = .ok (.putfield 141, 3) := by decide +kernel
theorem dX4_isText_10 : decode cX4_isText 10 = .ok (.aload_n 0, 1) := by decide +kernel
theorem dX4_isText_11 : decode cX4_isText 11 = .ok (.invokevirtual 167, 3) := by decide +kernel
theorem dX4_isText_14 : decode cX4_isText 14 = .ok (.aload_n 0, 1) := by decide +kernel
theorem dX4_isText_15 : decode cX4_isText 15 = .ok (.getfield 141, 3) := by decide +kernel
theorem dX4_isText_18 : decode cX4_isText 18 = .ok (.ifCond .eq 46, 3) := by decide +kernel
theorem dX4_isText_21 : decode cX4_isText 21 = .ok (.aload_n 0, 1) := by decide +kernel
theorem dX4_isText_22 : decode cX4_isText 22 = .ok (.getfield 138, 3) := by decide +kernel
theorem dX4_isText_25 : decode cX4_isText 25 = .ok (.aload_n 0, 1) := by decide +kernel
theorem dX4_isText_26 : decode cX4_isText 26 = .ok (.getfield 135, 3) := by decide +kernel
theorem dX4_isText_29 : decode cX4_isText 29 = .ok (.if_icmp .ge 35, 3) := by decide +kernel
theorem dX4_isText_32 : decode cX4_isText 32 = .ok (.aload_n 0, 1) := by decide +kernel
theorem dX4_isText_33 : decode cX4_isText 33 = .ok (.aload_n 0, 1) := by decide +kernel
theorem dX4_isText_34 : decode cX4_isText 34 = .ok (.invokevirtual 145, 3) := by decide +kernel
theorem dX4_isText_37 : decode cX4_isText 37 = .ok (.bipush 59, 2) := by decide +kernel
theorem dX4_isText_39 : decode cX4_isText 39 = .ok (.if_icmp .ne 7, 3) := by decide +kernel
theorem dX4_isText_42 : decode cX4_isText 42 = .ok (.iconst 1, 1) := by decide +kernel
theorem dX4_isText_43 : decode cX4_isText 43 = .ok (.goto 4, 3) := by decide +kernel
theorem dX4_isText_46 : decode cX4_isText 46 = .ok (.iconst 0, 1) := by decide +kernel
theorem dX4_isText_47 : decode cX4_isText 47 = .ok (.invokevirtual 148, 3) := by decide +kernel
theorem dX4_isText_50 : decode cX4_isText 50 = .ok (.aload_n 0, 1) := by decide +kernel
theorem dX4_isText_51 : decode cX4_isText 51 = .ok (.getfield 141, 3) := by decide +kernel
theorem dX4_isText_54 : decode cX4_isText 54 = .ok (.ifCond .eq (-40), 3) := by decide +kernel
theorem dX4_isText_57 : decode cX4_isText 57 = .ok (.aload_n 0, 1) := by decide +kernel
theorem dX4_isText_58 : decode cX4_isText 58 = .ok (.invokevirtual 167, 3) := by decide +kernel
theorem dX4_isText_61 : decode cX4_isText 61 = .ok (.goto (-47), 3) := by decide +kernel
theorem dX4_isText_64 : decode cX4_isText 64 = .ok (.aload_n 0, 1) := by decide +kernel
theorem dX4_isText_65 : decode cX4_isText 65 = .ok (.getfield 141, 3) := by decide +kernel
theorem dX4_isText_68 : decode cX4_isText 68 = .ok (.ireturn, 1) := by decide +kernel
theorem dX4_fault_0 : decode cX4_fault 0 = .ok (.aload_n 0, 1) := by decide +kernel
theorem dX4_fault_1 : decode cX4_fault 1 = .ok (.invokevirtual 170, 3) := by decide +kernel
theorem dX4_fault_4 : decode cX4_fault 4 = .ok (.ifCond .eq 8, 3) := by decide +kernel
theorem dX4_fault_7 : decode cX4_fault 7 = .ok (.bipush (-4), 2) := by decide +kernel
theorem dX4_fault_9 : decode cX4_fault 9 = .ok (.goto 7, 3) := by decide +kernel
theorem dX4_fault_12 : decode cX4_fault 12 = .ok (.aload_n 0, 1) := by decide +kernel
theorem dX4_fault_13 : decode cX4_fault 13 = .ok (.getfield 138, 3) := by decide +kernel
theorem dX4_fault_16 : decode cX4_fault 16 = .ok (.ireturn, 1) := by decide +kernel
theorem dX4_signAll_0 : decode cX4_signAll 0 = .ok (.aload_n 0, 1) := by decide +kernel
theorem dX4_signAll_1 : decode cX4_signAll 1 = .ok (.invokevirtual 170, 3) := by decide +kernel
theorem dX4_signAll_4 : decode cX4_signAll 4 = .ok (.ifCond .ne 6, 3) := by decide +kernel
theorem dX4_signAll_7 : decode cX4_signAll 7 = .ok (.bipush (-2), 2) := by decide +kernel
theorem dX4_signAll_9 : decode cX4_signAll 9 = .ok (.ireturn, 1) := by decide +kernel
theorem dX4_signAll_10 : decode cX4_signAll 10 = .ok (.aload_n 0, 1) := by decide +kernel
theorem dX4_signAll_11 : decode cX4_signAll 11 = .ok (.invokevirtual 113, 3) := by decide +kernel
theorem dX4_signAll_14 : decode cX4_signAll 14 = .ok (.aload_n 0, 1) := by decide +kernel
theorem dX4_signAll_15 : decode cX4_signAll 15 = .ok (.iconst 0, 1) := by decide +kernel
theorem dX4_signAll_16 : decode cX4_signAll 16 = .ok (.putfield 138, 3) := by decide +kernel
theorem dX4_signAll_19 : decode cX4_signAll 19 = .ok (.aload_n 0, 1) := by decide +kernel
theorem dX4_signAll_20 : decode cX4_signAll 20 = .ok (.iconst 0, 1) := by decide +kernel
theorem dX4_signAll_21 : decode cX4_signAll 21 = .ok (.putfield 173, 3) := by decide +kernel
theorem dX4_signAll_24 : decode cX4_signAll 24 = .ok (.iconst 0, 1) := by decide +kernel
theorem dX4_signAll_25 : decode cX4_signAll 25 = .ok (.istore_n 1, 1) := by decide +kernel
theorem dX4_signAll_26 : decode cX4_signAll 26 = .ok (.aload_n 0, 1) := by decide +kernel
theorem dX4_signAll_27 : decode cX4_signAll 27 = .ok (.getfield 173, 3) := by decide +kernel
theorem dX4_signAll_30 : decode cX4_signAll 30 = .ok (.ifCond .ne 116, 3) := by decide +kernel
theorem dX4_signAll_33 : decode cX4_signAll 33 = .ok (.aload_n 0, 1) := by decide +kernel
theorem dX4_signAll_34 : decode cX4_signAll 34 = .ok (.getfield 138, 3) := by decide +kernel
theorem dX4_signAll_37 : decode cX4_signAll 37 = .ok (.aload_n 0, 1) := by decide +kernel
theorem dX4_signAll_38 : decode cX4_signAll 38 = .ok (.getfield 135, 3) := by decide +kernel
theorem dX4_signAll_41 : decode cX4_signAll 41 = .ok (.if_icmp .ge 105, 3) := by decide +kernel
theorem dX4_signAll_44 : decode cX4_signAll 44 = .ok (.aload_n 0, 1) := by decide +kernel
theorem dX4_signAll_45 : decode cX4_signAll 45 = .ok (.getfield 138, 3) := by decide +kernel
theorem dX4_signAll_48 : decode cX4_signAll 48 = .ok (.istore_n 2, 1) := by decide +kernel
theorem dX4_signAll_49 : decode cX4_signAll 49 = .ok (.aload_n 0, 1) := by decide +kernel
theorem dX4_signAll_50 : decode cX4_signAll 50 = .ok (.invokevirtual 167, 3) := by decide +kernel
theorem dX4_signAll_53 : decode cX4_signAll 53 = .ok (.aload_n 0, 1) := by decide +kernel
theorem dX4_signAll_54 : decode cX4_signAll 54 = .ok (.dup, 1) := by decide +kernel
theorem dX4_signAll_55 : decode cX4_signAll 55 = .ok (.getfield 138, 3) := by decide +kernel
theorem dX4_signAll_58 : decode cX4_signAll 58 = .ok (.iconst 1, 1) := by decide +kernel
theorem dX4_signAll_59 : decode cX4_signAll 59 = .ok (.iadd, 1) := by decide +kernel
theorem dX4_signAll_60 : decode cX4_signAll 60 = .ok (.putfield 138, 3) := by decide +kernel
theorem dX4_signAll_63 : decode cX4_signAll 63 = .ok (.aload_n 0, 1) := by decide +kernel
theorem dX4_signAll_64 : decode cX4_signAll 64 = .ok (.aload_n 0, 1) := by decide +kernel
theorem dX4_signAll_65 : decode cX4_signAll 65 = .ok (.getfield 155, 3) := by decide +kernel
theorem dX4_signAll_68 : decode cX4_signAll 68 = .ok (.aload_n 0, 1) := by decide +kernel
theorem dX4_signAll_69 : decode cX4_signAll 69 = .ok (.getfield 158, 3) := by decide +kernel
theorem dX4_signAll_72 : decode cX4_signAll 72 = .ok (.aload_n 0, 1) := by decide +kernel
theorem dX4_signAll_73 : decode cX4_signAll 73 = .ok (.getfield 161, 3) := by decide +kernel
theorem dX4_signAll_76 : decode cX4_signAll 76 = .ok (.invokevirtual 126, 3) := by decide +kernel
theorem dX4_signAll_79 : decode cX4_signAll 79 = .ok (.istore_n 3, 1) := by decide +kernel
theorem dX4_signAll_80 : decode cX4_signAll 80 = .ok (.iload_n 3, 1) := by decide +kernel
theorem dX4_signAll_81 : decode cX4_signAll 81 = .ok (.ifCond .ge 7, 3) := by decide +kernel
theorem dX4_signAll_84 : decode cX4_signAll 84 = .ok (.iload_n 3, 1) := by decide +kernel
theorem dX4_signAll_85 : decode cX4_signAll 85 = .ok (.goto 19, 3) := by decide +kernel
theorem dX4_signAll_88 : decode cX4_signAll 88 = .ok (.aload_n 0, 1) := by decide +kernel
theorem dX4_signAll_89 : decode cX4_signAll 89 = .ok (.aload_n 0, 1) := by decide +kernel
theorem dX4_signAll_90 : decode cX4_signAll 90 = .ok (.getfield 155, 3) := by decide +kernel
theorem dX4_signAll_93 : decode cX4_signAll 93 = .ok (.aload_n 0, 1) := by decide +kernel
theorem dX4_signAll_94 : decode cX4_signAll 94 = .ok (.getfield 158, 3) := by decide +kernel
theorem dX4_signAll_97 : decode cX4_signAll 97 = .ok (.aload_n 0, 1) := by decide +kernel
theorem dX4_signAll_98 : decode cX4_signAll 98 = .ok (.getfield 161, 3) := by decide +kernel
theorem dX4_signAll_101 : decode cX4_signAll 101 = .ok (.invokevirtual 129, 3) := by decide +kernel
theorem dX4_signAll_104 : decode cX4_signAll 104 = .ok (.istore_n 3, 1) := by decide +kernel
theorem dX4_signAll_105 : decode cX4_signAll 105 = .ok (.iload_n 3, 1) := by decide +kernel
theorem dX4_signAll_106 : decode cX4_signAll 106 = .ok (.bipush 10, 2) := by decide +kernel
theorem dX4_signAll_108 : decode cX4_signAll 108 = .ok (.if_icmp .ge 32, 3) := by decide +kernel
theorem dX4_signAll_111 : decode cX4_signAll 111 = .ok (.aload_n 0, 1) := by decide +kernel
theorem dX4_signAll_112 : decode cX4_signAll 112 = .ok (.iconst 1, 1) := by decide +kernel
theorem dX4_signAll_113 : decode cX4_signAll 113 = .ok (.putfield 173, 3) := by decide +kernel
theorem dX4_signAll_116 : decode cX4_signAll 116 = .ok (.aload_n 0, 1) := by decide +kernel
theorem dX4_signAll_117 : decode cX4_signAll 117 = .ok (.getfield 31, 3) := by decide +kernel
theorem dX4_signAll_120 : decode cX4_signAll 120 = .ok (.iconst 0, 1) := by decide +kernel
theorem dX4_signAll_121 : decode cX4_signAll 121 = .ok (.iload_n 3, 1) := by decide +kernel
theorem dX4_signAll_122 : decode cX4_signAll 122 = .ok (.iastore, 1) := by decide +kernel
theorem dX4_signAll_123 : decode cX4_signAll 123 = .ok (.aload_n 0, 1) := by decide +kernel
theorem dX4_signAll_124 : decode cX4_signAll 124 = .ok (.getfield 31, 3) := by decide +kernel
theorem dX4_signAll_127 : decode cX4_signAll 127 = .ok (.iconst 1, 1) := by decide +kernel
theorem dX4_signAll_128 : decode cX4_signAll 128 = .ok (.iload_n 1, 1) := by decide +kernel
theorem dX4_signAll_129 : decode cX4_signAll 129 = .ok (.iastore, 1) := by decide +kernel
theorem dX4_signAll_130 : decode cX4_signAll 130 = .ok (.aload_n 0, 1) := by decide +kernel
theorem dX4_signAll_131 : decode cX4_signAll 131 = .ok (.getfield 31, 3) := by decide +kernel
theorem dX4_signAll_134 : decode cX4_signAll 134 = .ok (.iconst 2, 1) := by decide +kernel
theorem dX4_signAll_135 : decode cX4_signAll 135 = .ok (.iload_n 2, 1) := by decide +kernel
theorem dX4_signAll_136 : decode cX4_signAll 136 = .ok (.iastore, 1) := by decide +kernel
theorem dX4_signAll_137 : decode cX4_signAll 137 = .ok (.goto 6, 3) := by decide +kernel
theorem dX4_signAll_140 : decode cX4_signAll 140 = .ok (.iinc 1 1, 3) := by decide +kernel
theorem dX4_signAll_143 : decode cX4_signAll 143 = .ok (.goto (-117), 3) := by decide +kernel
theorem dX4_signAll_146 : decode cX4_signAll 146 = .ok (.aload_n 0, 1) := by decide +kernel
theorem dX4_signAll_147 : decode cX4_signAll 147 = .ok (.iconst 0, 1) := by decide +kernel
theorem dX4_signAll_148 : decode cX4_signAll 148 = .ok (.putfield 135, 3) := by decide +kernel
theorem dX4_signAll_151 : decode cX4_signAll 151 = .ok (.iload_n 1, 1) := by decide +kernel
theorem dX4_signAll_152 : decode cX4_signAll 152 = .ok (.ireturn, 1) := by decide +kernel
theorem dX4_why_0 : decode cX4_why 0 = .ok (.iload_n 1, 1) := by decide +kernel
theorem dX4_why_1 : decode cX4_why 1 = .ok (.iconst 0, 1) := by decide +kernel
theorem dX4_why_2 : decode cX4_why 2 = .ok (.iconst 2, 1) := by decide +kernel
theorem dX4_why_3 : decode cX4_why 3 = .ok (.invokestatic 46, 3) := by decide +kernel
theorem dX4_why_6 : decode cX4_why 6 = .ok (.ifCond .ne 5, 3) := by decide +kernel
theorem dX4_why_9 : decode cX4_why 9 = .ok (.iconst (-1), 1) := by decide +kernel
theorem dX4_why_10 : decode cX4_why 10 = .ok (.ireturn, 1) := by decide +kernel
theorem dX4_why_11 : decode cX4_why 11 = .ok (.aload_n 0, 1) := by decide +kernel
theorem dX4_why_12 : decode cX4_why 12 = .ok (.getfield 173, 3) := by decide +kernel
theorem dX4_why_15 : decode cX4_why 15 = .ok (.ifCond .eq 12, 3) := by decide +kernel
theorem dX4_why_18 : decode cX4_why 18 = .ok (.aload_n 0, 1) := by decide +kernel
theorem dX4_why_19 : decode cX4_why 19 = .ok (.getfield 31, 3) := by decide +kernel
theorem dX4_why_22 : decode cX4_why 22 = .ok (.iload_n 1, 1) := by decide +kernel
theorem dX4_why_23 : decode cX4_why 23 = .ok (.iaload, 1) := by decide +kernel
theorem dX4_why_24 : decode cX4_why 24 = .ok (.goto 5, 3) := by decide +kernel
theorem dX4_why_27 : decode cX4_why 27 = .ok (.bipush (-4), 2) := by decide +kernel
theorem dX4_why_29 : decode cX4_why 29 = .ok (.ireturn, 1) := by decide +kernel
theorem dX4_isAbout_0 : decode cX4_isAbout 0 = .ok (.aload_n 0, 1) := by decide +kernel
theorem dX4_isAbout_1 : decode cX4_isAbout 1 = .ok (.iload_n 1, 1) := by decide +kernel
theorem dX4_isAbout_2 : decode cX4_isAbout 2 = .ok (.iconst 0, 1) := by decide +kernel
theorem dX4_isAbout_3 : decode cX4_isAbout 3 = .ok (.invokevirtual 54, 3) := by decide +kernel
theorem dX4_isAbout_6 : decode cX4_isAbout 6 = .ok (.iload_n 2, 1) := by decide +kernel
theorem dX4_isAbout_7 : decode cX4_isAbout 7 = .ok (.if_icmp .eq 13, 3) := by decide +kernel
theorem dX4_isAbout_10 : decode cX4_isAbout 10 = .ok (.aload_n 0, 1) := by decide +kernel
theorem dX4_isAbout_11 : decode cX4_isAbout 11 = .ok (.iload_n 1, 1) := by decide +kernel
theorem dX4_isAbout_12 : decode cX4_isAbout 12 = .ok (.iconst 1, 1) := by decide +kernel
theorem dX4_isAbout_13 : decode cX4_isAbout 13 = .ok (.invokevirtual 54, 3) := by decide +kernel
theorem dX4_isAbout_16 : decode cX4_isAbout 16 = .ok (.iload_n 2, 1) := by decide +kernel
theorem dX4_isAbout_17 : decode cX4_isAbout 17 = .ok (.if_icmp .ne 7, 3) := by decide +kernel
theorem dX4_isAbout_20 : decode cX4_isAbout 20 = .ok (.iconst 1, 1) := by decide +kernel
theorem dX4_isAbout_21 : decode cX4_isAbout 21 = .ok (.goto 4, 3) := by decide +kernel
theorem dX4_isAbout_24 : decode cX4_isAbout 24 = .ok (.iconst 0, 1) := by decide +kernel
theorem dX4_isAbout_25 : decode cX4_isAbout 25 = .ok (.ireturn, 1) := by decide +kernel
theorem dX4_brokenAbout_0 : decode cX4_brokenAbout 0 = .ok (.iconst 0, 1) := by decide +kernel
theorem dX4_brokenAbout_1 : decode cX4_brokenAbout 1 = .ok (.istore_n 2, 1) := by decide +kernel
theorem dX4_brokenAbout_2 : decode cX4_brokenAbout 2 = .ok (.iconst 0, 1) := by decide +kernel
theorem dX4_brokenAbout_3 : decode cX4_brokenAbout 3 = .ok (.istore_n 3, 1) := by decide +kernel
theorem dX4_brokenAbout_4 : decode cX4_brokenAbout 4 = .ok (.iload_n 3, 1) := by decide +kernel
theorem dX4_brokenAbout_5 : decode cX4_brokenAbout 5 = .ok (.aload_n 0, 1) := by decide +kernel
theorem dX4_brokenAbout_6 : decode cX4_brokenAbout 6 = .ok (.getfield 7, 3) := by decide +kernel
theorem dX4_brokenAbout_9 : decode cX4_brokenAbout 9 = .ok (.iconst 2, 1) := by decide +kernel
theorem dX4_brokenAbout_10 : decode cX4_brokenAbout 10 = .ok (.iaload, 1) := by decide +kernel
theorem dX4_brokenAbout_11 : decode cX4_brokenAbout 11 = .ok (.if_icmp .ge 34, 3) := by decide +kernel
theorem dX4_brokenAbout_14 : decode cX4_brokenAbout 14 = .ok (.iload_n 2, 1) := by decide +kernel
theorem dX4_brokenAbout_15 : decode cX4_brokenAbout 15 = .ok (.aload_n 0, 1) := by decide +kernel
theorem dX4_brokenAbout_16 : decode cX4_brokenAbout 16 = .ok (.iload_n 3, 1) := by decide +kernel
theorem dX4_brokenAbout_17 : decode cX4_brokenAbout 17 = .ok (.iload_n 1, 1) := by decide +kernel
theorem dX4_brokenAbout_18 : decode cX4_brokenAbout 18 = .ok (.invokevirtual 176, 3) := by decide +kernel
theorem dX4_brokenAbout_21 : decode cX4_brokenAbout 21 = .ok (.ifCond .eq 15, 3) := by decide +kernel
theorem dX4_brokenAbout_24 : decode cX4_brokenAbout 24 = .ok (.aload_n 0, 1) := by decide +kernel
theorem dX4_brokenAbout_25 : decode cX4_brokenAbout 25 = .ok (.iload_n 3, 1) := by decide +kernel
theorem dX4_brokenAbout_26 : decode cX4_brokenAbout 26 = .ok (.invokevirtual 65, 3) := by decide +kernel
theorem dX4_brokenAbout_29 : decode cX4_brokenAbout 29 = .ok (.ifCond .eq 7, 3) := by decide +kernel
theorem dX4_brokenAbout_32 : decode cX4_brokenAbout 32 = .ok (.iconst 1, 1) := by decide +kernel
theorem dX4_brokenAbout_33 : decode cX4_brokenAbout 33 = .ok (.goto 4, 3) := by decide +kernel
theorem dX4_brokenAbout_36 : decode cX4_brokenAbout 36 = .ok (.iconst 0, 1) := by decide +kernel
theorem dX4_brokenAbout_37 : decode cX4_brokenAbout 37 = .ok (.iadd, 1) := by decide +kernel
theorem dX4_brokenAbout_38 : decode cX4_brokenAbout 38 = .ok (.istore_n 2, 1) := by decide +kernel
theorem dX4_brokenAbout_39 : decode cX4_brokenAbout 39 = .ok (.iinc 3 1, 3) := by decide +kernel
theorem dX4_brokenAbout_42 : decode cX4_brokenAbout 42 = .ok (.goto (-38), 3) := by decide +kernel
theorem dX4_brokenAbout_45 : decode cX4_brokenAbout 45 = .ok (.iload_n 2, 1) := by decide +kernel
theorem dX4_brokenAbout_46 : decode cX4_brokenAbout 46 = .ok (.ireturn, 1) := by decide +kernel
theorem dX4_forceAbout_0 : decode cX4_forceAbout 0 = .ok (.iconst 0, 1) := by decide +kernel
theorem dX4_forceAbout_1 : decode cX4_forceAbout 1 = .ok (.istore_n 2, 1) := by decide +kernel
theorem dX4_forceAbout_2 : decode cX4_forceAbout 2 = .ok (.iconst 0, 1) := by decide +kernel
theorem dX4_forceAbout_3 : decode cX4_forceAbout 3 = .ok (.istore_n 3, 1) := by decide +kernel
theorem dX4_forceAbout_4 : decode cX4_forceAbout 4 = .ok (.iload_n 3, 1) := by decide +kernel
theorem dX4_forceAbout_5 : decode cX4_forceAbout 5 = .ok (.aload_n 0, 1) := by decide +kernel
theorem dX4_forceAbout_6 : decode cX4_forceAbout 6 = .ok (.getfield 7, 3) := by decide +kernel
theorem dX4_forceAbout_9 : decode cX4_forceAbout 9 = .ok (.iconst 2, 1) := by decide +kernel
theorem dX4_forceAbout_10 : decode cX4_forceAbout 10 = .ok (.iaload, 1) := by decide +kernel
theorem dX4_forceAbout_11 : decode cX4_forceAbout 11 = .ok (.if_icmp .ge 34, 3) := by decide +kernel
theorem dX4_forceAbout_14 : decode cX4_forceAbout 14 = .ok (.iload_n 2, 1) := by decide +kernel
theorem dX4_forceAbout_15 : decode cX4_forceAbout 15 = .ok (.aload_n 0, 1) := by decide +kernel
theorem dX4_forceAbout_16 : decode cX4_forceAbout 16 = .ok (.iload_n 3, 1) := by decide +kernel
theorem dX4_forceAbout_17 : decode cX4_forceAbout 17 = .ok (.iload_n 1, 1) := by decide +kernel
theorem dX4_forceAbout_18 : decode cX4_forceAbout 18 = .ok (.invokevirtual 176, 3) := by decide +kernel
theorem dX4_forceAbout_21 : decode cX4_forceAbout 21 = .ok (.ifCond .eq 15, 3) := by decide +kernel
theorem dX4_forceAbout_24 : decode cX4_forceAbout 24 = .ok (.aload_n 0, 1) := by decide +kernel
theorem dX4_forceAbout_25 : decode cX4_forceAbout 25 = .ok (.iload_n 3, 1) := by decide +kernel
theorem dX4_forceAbout_26 : decode cX4_forceAbout 26 = .ok (.invokevirtual 57, 3) := by decide +kernel
theorem dX4_forceAbout_29 : decode cX4_forceAbout 29 = .ok (.ifCond .eq 7, 3) := by decide +kernel
theorem dX4_forceAbout_32 : decode cX4_forceAbout 32 = .ok (.iconst 1, 1) := by decide +kernel
theorem dX4_forceAbout_33 : decode cX4_forceAbout 33 = .ok (.goto 4, 3) := by decide +kernel
theorem dX4_forceAbout_36 : decode cX4_forceAbout 36 = .ok (.iconst 0, 1) := by decide +kernel
theorem dX4_forceAbout_37 : decode cX4_forceAbout 37 = .ok (.iadd, 1) := by decide +kernel
theorem dX4_forceAbout_38 : decode cX4_forceAbout 38 = .ok (.istore_n 2, 1) := by decide +kernel
theorem dX4_forceAbout_39 : decode cX4_forceAbout 39 = .ok (.iinc 3 1, 3) := by decide +kernel
theorem dX4_forceAbout_42 : decode cX4_forceAbout 42 = .ok (.goto (-38), 3) := by decide +kernel
theorem dX4_forceAbout_45 : decode cX4_forceAbout 45 = .ok (.iload_n 2, 1) := by decide +kernel
theorem dX4_forceAbout_46 : decode cX4_forceAbout 46 = .ok (.ireturn, 1) := by decide +kernel
theorem dX4_hedge_0 : decode cX4_hedge 0 = .ok (.iload_n 1, 1) := by decide +kernel
theorem dX4_hedge_1 : decode cX4_hedge 1 = .ok (.invokestatic 87, 3) := by decide +kernel
theorem dX4_hedge_4 : decode cX4_hedge 4 = .ok (.ifCond .ne 5, 3) := by decide +kernel
theorem dX4_hedge_7 : decode cX4_hedge 7 = .ok (.iconst (-1), 1) := by decide +kernel
theorem dX4_hedge_8 : decode cX4_hedge 8 = .ok (.ireturn, 1) := by decide +kernel
theorem dX4_hedge_9 : decode cX4_hedge 9 = .ok (.iload_n 2, 1) := by decide +kernel
theorem dX4_hedge_10 : decode cX4_hedge 10 = .ok (.tableswitch 112 0 7 #[46, 46, 53, 67, 74, 93, 99, 105], 46) := by decide +kernel
theorem dX4_hedge_56 : decode cX4_hedge 56 = .ok (.aload_n 0, 1) := by decide +kernel
theorem dX4_hedge_57 : decode cX4_hedge 57 = .ok (.iload_n 1, 1) := by decide +kernel
theorem dX4_hedge_58 : decode cX4_hedge 58 = .ok (.iload_n 2, 1) := by decide +kernel
theorem dX4_hedge_59 : decode cX4_hedge 59 = .ok (.invokevirtual 50, 3) := by decide +kernel
theorem dX4_hedge_62 : decode cX4_hedge 62 = .ok (.ireturn, 1) := by decide +kernel
theorem dX4_hedge_63 : decode cX4_hedge 63 = .ok (.aload_n 0, 1) := by decide +kernel
theorem dX4_hedge_64 : decode cX4_hedge 64 = .ok (.iload_n 1, 1) := by decide +kernel
theorem dX4_hedge_65 : decode cX4_hedge 65 = .ok (.invokevirtual 106, 3) := by decide +kernel
theorem dX4_hedge_68 : decode cX4_hedge 68 = .ok (.ifCond .eq 7, 3) := by decide +kernel
theorem dX4_hedge_71 : decode cX4_hedge 71 = .ok (.iconst 1, 1) := by decide +kernel
theorem dX4_hedge_72 : decode cX4_hedge 72 = .ok (.goto 4, 3) := by decide +kernel
theorem dX4_hedge_75 : decode cX4_hedge 75 = .ok (.iconst 0, 1) := by decide +kernel
theorem dX4_hedge_76 : decode cX4_hedge 76 = .ok (.ireturn, 1) := by decide +kernel
theorem dX4_hedge_77 : decode cX4_hedge 77 = .ok (.aload_n 0, 1) := by decide +kernel
theorem dX4_hedge_78 : decode cX4_hedge 78 = .ok (.iload_n 1, 1) := by decide +kernel
theorem dX4_hedge_79 : decode cX4_hedge 79 = .ok (.iconst 2, 1) := by decide +kernel
theorem dX4_hedge_80 : decode cX4_hedge 80 = .ok (.invokevirtual 50, 3) := by decide +kernel
theorem dX4_hedge_83 : decode cX4_hedge 83 = .ok (.ireturn, 1) := by decide +kernel
theorem dX4_hedge_84 : decode cX4_hedge 84 = .ok (.aload_n 0, 1) := by decide +kernel
theorem dX4_hedge_85 : decode cX4_hedge 85 = .ok (.invokevirtual 103, 3) := by decide +kernel
theorem dX4_hedge_88 : decode cX4_hedge 88 = .ok (.ifCond .eq 12, 3) := by decide +kernel
theorem dX4_hedge_91 : decode cX4_hedge 91 = .ok (.aload_n 0, 1) := by decide +kernel
theorem dX4_hedge_92 : decode cX4_hedge 92 = .ok (.getfield 25, 3) := by decide +kernel
theorem dX4_hedge_95 : decode cX4_hedge 95 = .ok (.iload_n 1, 1) := by decide +kernel
theorem dX4_hedge_96 : decode cX4_hedge 96 = .ok (.iaload, 1) := by decide +kernel
theorem dX4_hedge_97 : decode cX4_hedge 97 = .ok (.goto 5, 3) := by decide +kernel
theorem dX4_hedge_100 : decode cX4_hedge 100 = .ok (.bipush (-4), 2) := by decide +kernel
theorem dX4_hedge_102 : decode cX4_hedge 102 = .ok (.ireturn, 1) := by decide +kernel
theorem dX4_hedge_103 : decode cX4_hedge 103 = .ok (.aload_n 0, 1) := by decide +kernel
theorem dX4_hedge_104 : decode cX4_hedge 104 = .ok (.iload_n 1, 1) := by decide +kernel
theorem dX4_hedge_105 : decode cX4_hedge 105 = .ok (.invokevirtual 179, 3) := by decide +kernel
theorem dX4_hedge_108 : decode cX4_hedge 108 = .ok (.ireturn, 1) := by decide +kernel
theorem dX4_hedge_109 : decode cX4_hedge 109 = .ok (.aload_n 0, 1) := by decide +kernel
theorem dX4_hedge_110 : decode cX4_hedge 110 = .ok (.iload_n 1, 1) := by decide +kernel
theorem dX4_hedge_111 : decode cX4_hedge 111 = .ok (.invokevirtual 182, 3) := by decide +kernel
theorem dX4_hedge_114 : decode cX4_hedge 114 = .ok (.ireturn, 1) := by decide +kernel
theorem dX4_hedge_115 : decode cX4_hedge 115 = .ok (.aload_n 0, 1) := by decide +kernel
theorem dX4_hedge_116 : decode cX4_hedge 116 = .ok (.iload_n 1, 1) := by decide +kernel
theorem dX4_hedge_117 : decode cX4_hedge 117 = .ok (.iconst 3, 1) := by decide +kernel
theorem dX4_hedge_118 : decode cX4_hedge 118 = .ok (.invokevirtual 50, 3) := by decide +kernel
theorem dX4_hedge_121 : decode cX4_hedge 121 = .ok (.ireturn, 1) := by decide +kernel
theorem dX4_hedge_122 : decode cX4_hedge 122 = .ok (.iconst (-1), 1) := by decide +kernel
theorem dX4_hedge_123 : decode cX4_hedge 123 = .ok (.ireturn, 1) := by decide +kernel
theorem dX4_saysNothing_0 : decode cX4_saysNothing 0 = .ok (.aload_n 0, 1) := by decide +kernel
theorem dX4_saysNothing_1 : decode cX4_saysNothing 1 = .ok (.aload_n 0, 1) := by decide +kernel
theorem dX4_saysNothing_2 : decode cX4_saysNothing 2 = .ok (.iload_n 1, 1) := by decide +kernel
theorem dX4_saysNothing_3 : decode cX4_saysNothing 3 = .ok (.iconst 0, 1) := by decide +kernel
theorem dX4_saysNothing_4 : decode cX4_saysNothing 4 = .ok (.invokevirtual 54, 3) := by decide +kernel
theorem dX4_saysNothing_7 : decode cX4_saysNothing 7 = .ok (.aload_n 0, 1) := by decide +kernel
theorem dX4_saysNothing_8 : decode cX4_saysNothing 8 = .ok (.iload_n 1, 1) := by decide +kernel
theorem dX4_saysNothing_9 : decode cX4_saysNothing 9 = .ok (.iconst 1, 1) := by decide +kernel
theorem dX4_saysNothing_10 : decode cX4_saysNothing 10 = .ok (.invokevirtual 54, 3) := by decide +kernel
theorem dX4_saysNothing_13 : decode cX4_saysNothing 13 = .ok (.iload_n 1, 1) := by decide +kernel
theorem dX4_saysNothing_14 : decode cX4_saysNothing 14 = .ok (.invokevirtual 83, 3) := by decide +kernel
theorem dX4_saysNothing_17 : decode cX4_saysNothing 17 = .ok (.aload_n 0, 1) := by decide +kernel
theorem dX4_saysNothing_18 : decode cX4_saysNothing 18 = .ok (.iload_n 1, 1) := by decide +kernel
theorem dX4_saysNothing_19 : decode cX4_saysNothing 19 = .ok (.iconst 2, 1) := by decide +kernel
theorem dX4_saysNothing_20 : decode cX4_saysNothing 20 = .ok (.invokevirtual 54, 3) := by decide +kernel
theorem dX4_saysNothing_23 : decode cX4_saysNothing 23 = .ok (.if_icmp .gt 7, 3) := by decide +kernel
theorem dX4_saysNothing_26 : decode cX4_saysNothing 26 = .ok (.iconst 1, 1) := by decide +kernel
theorem dX4_saysNothing_27 : decode cX4_saysNothing 27 = .ok (.goto 4, 3) := by decide +kernel
theorem dX4_saysNothing_30 : decode cX4_saysNothing 30 = .ok (.iconst 0, 1) := by decide +kernel
theorem dX4_saysNothing_31 : decode cX4_saysNothing 31 = .ok (.ireturn, 1) := by decide +kernel
theorem dX4_treaty_0 : decode cX4_treaty 0 = .ok (.aload_n 0, 1) := by decide +kernel
theorem dX4_treaty_1 : decode cX4_treaty 1 = .ok (.iload_n 1, 1) := by decide +kernel
theorem dX4_treaty_2 : decode cX4_treaty 2 = .ok (.invokevirtual 132, 3) := by decide +kernel
theorem dX4_treaty_5 : decode cX4_treaty 5 = .ok (.ifCond .ne 5, 3) := by decide +kernel
theorem dX4_treaty_8 : decode cX4_treaty 8 = .ok (.iconst (-1), 1) := by decide +kernel
theorem dX4_treaty_9 : decode cX4_treaty 9 = .ok (.ireturn, 1) := by decide +kernel
theorem dX4_treaty_10 : decode cX4_treaty 10 = .ok (.iload_n 2, 1) := by decide +kernel
theorem dX4_treaty_11 : decode cX4_treaty 11 = .ok (.tableswitch 121 0 7 #[45, 45, 52, 62, 76, 90, 100, 107], 45) := by decide +kernel
theorem dX4_treaty_56 : decode cX4_treaty 56 = .ok (.aload_n 0, 1) := by decide +kernel
theorem dX4_treaty_57 : decode cX4_treaty 57 = .ok (.iload_n 1, 1) := by decide +kernel
theorem dX4_treaty_58 : decode cX4_treaty 58 = .ok (.iload_n 2, 1) := by decide +kernel
theorem dX4_treaty_59 : decode cX4_treaty 59 = .ok (.invokevirtual 54, 3) := by decide +kernel
theorem dX4_treaty_62 : decode cX4_treaty 62 = .ok (.ireturn, 1) := by decide +kernel
theorem dX4_treaty_63 : decode cX4_treaty 63 = .ok (.aload_n 0, 1) := by decide +kernel
theorem dX4_treaty_64 : decode cX4_treaty 64 = .ok (.iload_n 1, 1) := by decide +kernel
theorem dX4_treaty_65 : decode cX4_treaty 65 = .ok (.iconst 2, 1) := by decide +kernel
theorem dX4_treaty_66 : decode cX4_treaty 66 = .ok (.invokevirtual 54, 3) := by decide +kernel
theorem dX4_treaty_69 : decode cX4_treaty 69 = .ok (.bipush 100, 2) := by decide +kernel
theorem dX4_treaty_71 : decode cX4_treaty 71 = .ok (.iadd, 1) := by decide +kernel
theorem dX4_treaty_72 : decode cX4_treaty 72 = .ok (.ireturn, 1) := by decide +kernel
theorem dX4_treaty_73 : decode cX4_treaty 73 = .ok (.aload_n 0, 1) := by decide +kernel
theorem dX4_treaty_74 : decode cX4_treaty 74 = .ok (.iload_n 1, 1) := by decide +kernel
theorem dX4_treaty_75 : decode cX4_treaty 75 = .ok (.invokevirtual 57, 3) := by decide +kernel
theorem dX4_treaty_78 : decode cX4_treaty 78 = .ok (.ifCond .eq 7, 3) := by decide +kernel
theorem dX4_treaty_81 : decode cX4_treaty 81 = .ok (.iconst 1, 1) := by decide +kernel
theorem dX4_treaty_82 : decode cX4_treaty 82 = .ok (.goto 4, 3) := by decide +kernel
theorem dX4_treaty_85 : decode cX4_treaty 85 = .ok (.iconst 0, 1) := by decide +kernel
theorem dX4_treaty_86 : decode cX4_treaty 86 = .ok (.ireturn, 1) := by decide +kernel
theorem dX4_treaty_87 : decode cX4_treaty 87 = .ok (.aload_n 0, 1) := by decide +kernel
theorem dX4_treaty_88 : decode cX4_treaty 88 = .ok (.iload_n 1, 1) := by decide +kernel
theorem dX4_treaty_89 : decode cX4_treaty 89 = .ok (.invokevirtual 65, 3) := by decide +kernel
theorem dX4_treaty_92 : decode cX4_treaty 92 = .ok (.ifCond .eq 7, 3) := by decide +kernel
theorem dX4_treaty_95 : decode cX4_treaty 95 = .ok (.iconst 1, 1) := by decide +kernel
theorem dX4_treaty_96 : decode cX4_treaty 96 = .ok (.goto 4, 3) := by decide +kernel
theorem dX4_treaty_99 : decode cX4_treaty 99 = .ok (.iconst 0, 1) := by decide +kernel
theorem dX4_treaty_100 : decode cX4_treaty 100 = .ok (.ireturn, 1) := by decide +kernel
theorem dX4_treaty_101 : decode cX4_treaty 101 = .ok (.sipush 1000, 3) := by decide +kernel
theorem dX4_treaty_104 : decode cX4_treaty 104 = .ok (.aload_n 0, 1) := by decide +kernel
theorem dX4_treaty_105 : decode cX4_treaty 105 = .ok (.iload_n 1, 1) := by decide +kernel
theorem dX4_treaty_106 : decode cX4_treaty 106 = .ok (.invokevirtual 61, 3) := by decide +kernel
theorem dX4_treaty_109 : decode cX4_treaty 109 = .ok (.iadd, 1) := by decide +kernel
theorem dX4_treaty_110 : decode cX4_treaty 110 = .ok (.ireturn, 1) := by decide +kernel
theorem dX4_treaty_111 : decode cX4_treaty 111 = .ok (.aload_n 0, 1) := by decide +kernel
theorem dX4_treaty_112 : decode cX4_treaty 112 = .ok (.iload_n 1, 1) := by decide +kernel
theorem dX4_treaty_113 : decode cX4_treaty 113 = .ok (.iconst 3, 1) := by decide +kernel
theorem dX4_treaty_114 : decode cX4_treaty 114 = .ok (.invokevirtual 54, 3) := by decide +kernel
theorem dX4_treaty_117 : decode cX4_treaty 117 = .ok (.ireturn, 1) := by decide +kernel
theorem dX4_treaty_118 : decode cX4_treaty 118 = .ok (.aload_n 0, 1) := by decide +kernel
theorem dX4_treaty_119 : decode cX4_treaty 119 = .ok (.iload_n 1, 1) := by decide +kernel
theorem dX4_treaty_120 : decode cX4_treaty 120 = .ok (.invokevirtual 185, 3) := by decide +kernel
theorem dX4_treaty_123 : decode cX4_treaty 123 = .ok (.ifCond .eq 7, 3) := by decide +kernel
theorem dX4_treaty_126 : decode cX4_treaty 126 = .ok (.iconst 1, 1) := by decide +kernel
theorem dX4_treaty_127 : decode cX4_treaty 127 = .ok (.goto 4, 3) := by decide +kernel
theorem dX4_treaty_130 : decode cX4_treaty 130 = .ok (.iconst 0, 1) := by decide +kernel
theorem dX4_treaty_131 : decode cX4_treaty 131 = .ok (.ireturn, 1) := by decide +kernel
theorem dX4_treaty_132 : decode cX4_treaty 132 = .ok (.iconst (-1), 1) := by decide +kernel
theorem dX4_treaty_133 : decode cX4_treaty 133 = .ok (.ireturn, 1) := by decide +kernel
theorem dX4_boundOf_0 : decode cX4_boundOf 0 = .ok (.aload_n 0, 1) := by decide +kernel
theorem dX4_boundOf_1 : decode cX4_boundOf 1 = .ok (.iload_n 1, 1) := by decide +kernel
theorem dX4_boundOf_2 : decode cX4_boundOf 2 = .ok (.iload_n 2, 1) := by decide +kernel
theorem dX4_boundOf_3 : decode cX4_boundOf 3 = .ok (.bipush (-4), 2) := by decide +kernel
theorem dX4_boundOf_5 : decode cX4_boundOf 5 = .ok (.invokevirtual 83, 3) := by decide +kernel
theorem dX4_boundOf_8 : decode cX4_boundOf 8 = .ok (.istore_n 3, 1) := by decide +kernel
theorem dX4_boundOf_9 : decode cX4_boundOf 9 = .ok (.iload_n 3, 1) := by decide +kernel
theorem dX4_boundOf_10 : decode cX4_boundOf 10 = .ok (.ldc 79, 2) := by decide +kernel
theorem dX4_boundOf_12 : decode cX4_boundOf 12 = .ok (.if_icmp .ne 8, 3) := by decide +kernel
theorem dX4_boundOf_15 : decode cX4_boundOf 15 = .ok (.bipush (-4), 2) := by decide +kernel
theorem dX4_boundOf_17 : decode cX4_boundOf 17 = .ok (.goto 8, 3) := by decide +kernel
theorem dX4_boundOf_20 : decode cX4_boundOf 20 = .ok (.sipush 1000, 3) := by decide +kernel
theorem dX4_boundOf_23 : decode cX4_boundOf 23 = .ok (.iload_n 3, 1) := by decide +kernel
theorem dX4_boundOf_24 : decode cX4_boundOf 24 = .ok (.iadd, 1) := by decide +kernel
theorem dX4_boundOf_25 : decode cX4_boundOf 25 = .ok (.ireturn, 1) := by decide +kernel
theorem dX4_bound_0 : decode cX4_bound 0 = .ok (.iload_n 1, 1) := by decide +kernel
theorem dX4_bound_1 : decode cX4_bound 1 = .ok (.invokestatic 87, 3) := by decide +kernel
theorem dX4_bound_4 : decode cX4_bound 4 = .ok (.ifCond .eq 28, 3) := by decide +kernel
theorem dX4_bound_7 : decode cX4_bound 7 = .ok (.iload_n 2, 1) := by decide +kernel
theorem dX4_bound_8 : decode cX4_bound 8 = .ok (.invokestatic 87, 3) := by decide +kernel
theorem dX4_bound_11 : decode cX4_bound 11 = .ok (.ifCond .eq 21, 3) := by decide +kernel
theorem dX4_bound_14 : decode cX4_bound 14 = .ok (.iload_n 3, 1) := by decide +kernel
theorem dX4_bound_15 : decode cX4_bound 15 = .ok (.iconst 0, 1) := by decide +kernel
theorem dX4_bound_16 : decode cX4_bound 16 = .ok (.iconst 1, 1) := by decide +kernel
theorem dX4_bound_17 : decode cX4_bound 17 = .ok (.invokestatic 46, 3) := by decide +kernel
theorem dX4_bound_20 : decode cX4_bound 20 = .ok (.ifCond .eq 12, 3) := by decide +kernel
theorem dX4_bound_23 : decode cX4_bound 23 = .ok (.aload_n 0, 1) := by decide +kernel
theorem dX4_bound_24 : decode cX4_bound 24 = .ok (.iload_n 1, 1) := by decide +kernel
theorem dX4_bound_25 : decode cX4_bound 25 = .ok (.iload_n 2, 1) := by decide +kernel
theorem dX4_bound_26 : decode cX4_bound 26 = .ok (.invokevirtual 188, 3) := by decide +kernel
theorem dX4_bound_29 : decode cX4_bound 29 = .ok (.goto 4, 3) := by decide +kernel
theorem dX4_bound_32 : decode cX4_bound 32 = .ok (.iconst (-1), 1) := by decide +kernel
theorem dX4_bound_33 : decode cX4_bound 33 = .ok (.ireturn, 1) := by decide +kernel
theorem dX4_whyNot_0 : decode cX4_whyNot 0 = .ok (.iload_n 1, 1) := by decide +kernel
theorem dX4_whyNot_1 : decode cX4_whyNot 1 = .ok (.iload_n 2, 1) := by decide +kernel
theorem dX4_whyNot_2 : decode cX4_whyNot 2 = .ok (.invokestatic 90, 3) := by decide +kernel
theorem dX4_whyNot_5 : decode cX4_whyNot 5 = .ok (.ifCond .eq 24, 3) := by decide +kernel
theorem dX4_whyNot_8 : decode cX4_whyNot 8 = .ok (.iload_n 3, 1) := by decide +kernel
theorem dX4_whyNot_9 : decode cX4_whyNot 9 = .ok (.bipush (-30), 2) := by decide +kernel
theorem dX4_whyNot_11 : decode cX4_whyNot 11 = .ok (.bipush 60, 2) := by decide +kernel
theorem dX4_whyNot_13 : decode cX4_whyNot 13 = .ok (.invokestatic 46, 3) := by decide +kernel
theorem dX4_whyNot_16 : decode cX4_whyNot 16 = .ok (.ifCond .eq 13, 3) := by decide +kernel
theorem dX4_whyNot_19 : decode cX4_whyNot 19 = .ok (.aload_n 0, 1) := by decide +kernel
theorem dX4_whyNot_20 : decode cX4_whyNot 20 = .ok (.iload_n 1, 1) := by decide +kernel
theorem dX4_whyNot_21 : decode cX4_whyNot 21 = .ok (.iload_n 2, 1) := by decide +kernel
theorem dX4_whyNot_22 : decode cX4_whyNot 22 = .ok (.iload_n 3, 1) := by decide +kernel
theorem dX4_whyNot_23 : decode cX4_whyNot 23 = .ok (.invokevirtual 94, 3) := by decide +kernel
theorem dX4_whyNot_26 : decode cX4_whyNot 26 = .ok (.goto 4, 3) := by decide +kernel
theorem dX4_whyNot_29 : decode cX4_whyNot 29 = .ok (.iconst (-1), 1) := by decide +kernel
theorem dX4_whyNot_30 : decode cX4_whyNot 30 = .ok (.ireturn, 1) := by decide +kernel
theorem dX4_clippingNow_0 : decode cX4_clippingNow 0 = .ok (.aload_n 0, 1) := by decide +kernel
theorem dX4_clippingNow_1 : decode cX4_clippingNow 1 = .ok (.invokevirtual 103, 3) := by decide +kernel
theorem dX4_clippingNow_4 : decode cX4_clippingNow 4 = .ok (.ifCond .ne 6, 3) := by decide +kernel
theorem dX4_clippingNow_7 : decode cX4_clippingNow 7 = .ok (.bipush (-4), 2) := by decide +kernel
theorem dX4_clippingNow_9 : decode cX4_clippingNow 9 = .ok (.ireturn, 1) := by decide +kernel
theorem dX4_clippingNow_10 : decode cX4_clippingNow 10 = .ok (.iconst 0, 1) := by decide +kernel
theorem dX4_clippingNow_11 : decode cX4_clippingNow 11 = .ok (.istore_n 1, 1) := by decide +kernel
theorem dX4_clippingNow_12 : decode cX4_clippingNow 12 = .ok (.iconst 0, 1) := by decide +kernel
theorem dX4_clippingNow_13 : decode cX4_clippingNow 13 = .ok (.istore_n 2, 1) := by decide +kernel
theorem dX4_clippingNow_14 : decode cX4_clippingNow 14 = .ok (.iload_n 2, 1) := by decide +kernel
theorem dX4_clippingNow_15 : decode cX4_clippingNow 15 = .ok (.bipush 8, 2) := by decide +kernel
theorem dX4_clippingNow_17 : decode cX4_clippingNow 17 = .ok (.if_icmp .ge 25, 3) := by decide +kernel
theorem dX4_clippingNow_20 : decode cX4_clippingNow 20 = .ok (.iload_n 1, 1) := by decide +kernel
theorem dX4_clippingNow_21 : decode cX4_clippingNow 21 = .ok (.aload_n 0, 1) := by decide +kernel
theorem dX4_clippingNow_22 : decode cX4_clippingNow 22 = .ok (.iload_n 2, 1) := by decide +kernel
theorem dX4_clippingNow_23 : decode cX4_clippingNow 23 = .ok (.iconst 0, 1) := by decide +kernel
theorem dX4_clippingNow_24 : decode cX4_clippingNow 24 = .ok (.invokevirtual 50, 3) := by decide +kernel
theorem dX4_clippingNow_27 : decode cX4_clippingNow 27 = .ok (.aload_n 0, 1) := by decide +kernel
theorem dX4_clippingNow_28 : decode cX4_clippingNow 28 = .ok (.getfield 25, 3) := by decide +kernel
theorem dX4_clippingNow_31 : decode cX4_clippingNow 31 = .ok (.iload_n 2, 1) := by decide +kernel
theorem dX4_clippingNow_32 : decode cX4_clippingNow 32 = .ok (.iaload, 1) := by decide +kernel
theorem dX4_clippingNow_33 : decode cX4_clippingNow 33 = .ok (.isub, 1) := by decide +kernel
theorem dX4_clippingNow_34 : decode cX4_clippingNow 34 = .ok (.iadd, 1) := by decide +kernel
theorem dX4_clippingNow_35 : decode cX4_clippingNow 35 = .ok (.istore_n 1, 1) := by decide +kernel
theorem dX4_clippingNow_36 : decode cX4_clippingNow 36 = .ok (.iinc 2 1, 3) := by decide +kernel
theorem dX4_clippingNow_39 : decode cX4_clippingNow 39 = .ok (.goto (-25), 3) := by decide +kernel
theorem dX4_clippingNow_42 : decode cX4_clippingNow 42 = .ok (.iload_n 1, 1) := by decide +kernel
theorem dX4_clippingNow_43 : decode cX4_clippingNow 43 = .ok (.ireturn, 1) := by decide +kernel
theorem dX4_clipping_0 : decode cX4_clipping 0 = .ok (.iload_n 1, 1) := by decide +kernel
theorem dX4_clipping_1 : decode cX4_clipping 1 = .ok (.iconst 0, 1) := by decide +kernel
theorem dX4_clipping_2 : decode cX4_clipping 2 = .ok (.iconst 1, 1) := by decide +kernel
theorem dX4_clipping_3 : decode cX4_clipping 3 = .ok (.invokestatic 46, 3) := by decide +kernel
theorem dX4_clipping_6 : decode cX4_clipping 6 = .ok (.ifCond .eq 10, 3) := by decide +kernel
theorem dX4_clipping_9 : decode cX4_clipping 9 = .ok (.aload_n 0, 1) := by decide +kernel
theorem dX4_clipping_10 : decode cX4_clipping 10 = .ok (.invokevirtual 191, 3) := by decide +kernel
theorem dX4_clipping_13 : decode cX4_clipping 13 = .ok (.goto 4, 3) := by decide +kernel
theorem dX4_clipping_16 : decode cX4_clipping 16 = .ok (.iconst (-1), 1) := by decide +kernel
theorem dX4_clipping_17 : decode cX4_clipping 17 = .ok (.ireturn, 1) := by decide +kernel
theorem dX4_allHeights_0 : decode cX4_allHeights 0 = .ok (.iconst 0, 1) := by decide +kernel
theorem dX4_allHeights_1 : decode cX4_allHeights 1 = .ok (.istore_n 1, 1) := by decide +kernel
theorem dX4_allHeights_2 : decode cX4_allHeights 2 = .ok (.iconst 0, 1) := by decide +kernel
theorem dX4_allHeights_3 : decode cX4_allHeights 3 = .ok (.istore_n 2, 1) := by decide +kernel
theorem dX4_allHeights_4 : decode cX4_allHeights 4 = .ok (.iload_n 2, 1) := by decide +kernel
theorem dX4_allHeights_5 : decode cX4_allHeights 5 = .ok (.bipush 8, 2) := by decide +kernel
theorem dX4_allHeights_7 : decode cX4_allHeights 7 = .ok (.if_icmp .ge 18, 3) := by decide +kernel
theorem dX4_allHeights_10 : decode cX4_allHeights 10 = .ok (.iload_n 1, 1) := by decide +kernel
theorem dX4_allHeights_11 : decode cX4_allHeights 11 = .ok (.aload_n 0, 1) := by decide +kernel
theorem dX4_allHeights_12 : decode cX4_allHeights 12 = .ok (.iload_n 2, 1) := by decide +kernel
theorem dX4_allHeights_13 : decode cX4_allHeights 13 = .ok (.iconst 0, 1) := by decide +kernel
theorem dX4_allHeights_14 : decode cX4_allHeights 14 = .ok (.invokevirtual 50, 3) := by decide +kernel
theorem dX4_allHeights_17 : decode cX4_allHeights 17 = .ok (.iadd, 1) := by decide +kernel
theorem dX4_allHeights_18 : decode cX4_allHeights 18 = .ok (.istore_n 1, 1) := by decide +kernel
theorem dX4_allHeights_19 : decode cX4_allHeights 19 = .ok (.iinc 2 1, 3) := by decide +kernel
theorem dX4_allHeights_22 : decode cX4_allHeights 22 = .ok (.goto (-18), 3) := by decide +kernel
theorem dX4_allHeights_25 : decode cX4_allHeights 25 = .ok (.iload_n 1, 1) := by decide +kernel
theorem dX4_allHeights_26 : decode cX4_allHeights 26 = .ok (.ireturn, 1) := by decide +kernel
theorem dX4_nested_0 : decode cX4_nested 0 = .ok (.iconst 0, 1) := by decide +kernel
theorem dX4_nested_1 : decode cX4_nested 1 = .ok (.istore_n 1, 1) := by decide +kernel
theorem dX4_nested_2 : decode cX4_nested 2 = .ok (.iconst 0, 1) := by decide +kernel
theorem dX4_nested_3 : decode cX4_nested 3 = .ok (.istore_n 2, 1) := by decide +kernel
theorem dX4_nested_4 : decode cX4_nested 4 = .ok (.iload_n 2, 1) := by decide +kernel
theorem dX4_nested_5 : decode cX4_nested 5 = .ok (.bipush 8, 2) := by decide +kernel
theorem dX4_nested_7 : decode cX4_nested 7 = .ok (.if_icmp .ge 25, 3) := by decide +kernel
theorem dX4_nested_10 : decode cX4_nested 10 = .ok (.iload_n 1, 1) := by decide +kernel
theorem dX4_nested_11 : decode cX4_nested 11 = .ok (.aload_n 0, 1) := by decide +kernel
theorem dX4_nested_12 : decode cX4_nested 12 = .ok (.iload_n 2, 1) := by decide +kernel
theorem dX4_nested_13 : decode cX4_nested 13 = .ok (.invokevirtual 106, 3) := by decide +kernel
theorem dX4_nested_16 : decode cX4_nested 16 = .ok (.ifCond .eq 7, 3) := by decide +kernel
theorem dX4_nested_19 : decode cX4_nested 19 = .ok (.iconst 1, 1) := by decide +kernel
theorem dX4_nested_20 : decode cX4_nested 20 = .ok (.goto 4, 3) := by decide +kernel
theorem dX4_nested_23 : decode cX4_nested 23 = .ok (.iconst 0, 1) := by decide +kernel
theorem dX4_nested_24 : decode cX4_nested 24 = .ok (.iadd, 1) := by decide +kernel
theorem dX4_nested_25 : decode cX4_nested 25 = .ok (.istore_n 1, 1) := by decide +kernel
theorem dX4_nested_26 : decode cX4_nested 26 = .ok (.iinc 2 1, 3) := by decide +kernel
theorem dX4_nested_29 : decode cX4_nested 29 = .ok (.goto (-25), 3) := by decide +kernel
theorem dX4_nested_32 : decode cX4_nested 32 = .ok (.iload_n 1, 1) := by decide +kernel
theorem dX4_nested_33 : decode cX4_nested 33 = .ok (.ireturn, 1) := by decide +kernel
theorem dX4_count_0 : decode cX4_count 0 = .ok (.iload_n 1, 1) := by decide +kernel
theorem dX4_count_1 : decode cX4_count 1 = .ok (.tableswitch 130 0 12 #[67, 74, 81, 86, 91, 96, 101, 108, 108, 108, 108, 120, 125], 67) := by decide +kernel
theorem dX4_count_68 : decode cX4_count 68 = .ok (.aload_n 0, 1) := by decide +kernel
theorem dX4_count_69 : decode cX4_count 69 = .ok (.getfield 7, 3) := by decide +kernel
theorem dX4_count_72 : decode cX4_count 72 = .ok (.iconst 0, 1) := by decide +kernel
theorem dX4_count_73 : decode cX4_count 73 = .ok (.iaload, 1) := by decide +kernel
theorem dX4_count_74 : decode cX4_count 74 = .ok (.ireturn, 1) := by decide +kernel
theorem dX4_count_75 : decode cX4_count 75 = .ok (.aload_n 0, 1) := by decide +kernel
theorem dX4_count_76 : decode cX4_count 76 = .ok (.getfield 7, 3) := by decide +kernel
theorem dX4_count_79 : decode cX4_count 79 = .ok (.iconst 2, 1) := by decide +kernel
theorem dX4_count_80 : decode cX4_count 80 = .ok (.iaload, 1) := by decide +kernel
theorem dX4_count_81 : decode cX4_count 81 = .ok (.ireturn, 1) := by decide +kernel
theorem dX4_count_82 : decode cX4_count 82 = .ok (.aload_n 0, 1) := by decide +kernel
theorem dX4_count_83 : decode cX4_count 83 = .ok (.invokevirtual 194, 3) := by decide +kernel
theorem dX4_count_86 : decode cX4_count 86 = .ok (.ireturn, 1) := by decide +kernel
theorem dX4_count_87 : decode cX4_count 87 = .ok (.aload_n 0, 1) := by decide +kernel
theorem dX4_count_88 : decode cX4_count 88 = .ok (.invokevirtual 123, 3) := by decide +kernel
theorem dX4_count_91 : decode cX4_count 91 = .ok (.ireturn, 1) := by decide +kernel
theorem dX4_count_92 : decode cX4_count 92 = .ok (.aload_n 0, 1) := by decide +kernel
theorem dX4_count_93 : decode cX4_count 93 = .ok (.invokevirtual 197, 3) := by decide +kernel
theorem dX4_count_96 : decode cX4_count 96 = .ok (.ireturn, 1) := by decide +kernel
theorem dX4_count_97 : decode cX4_count 97 = .ok (.aload_n 0, 1) := by decide +kernel
theorem dX4_count_98 : decode cX4_count 98 = .ok (.invokevirtual 200, 3) := by decide +kernel
theorem dX4_count_101 : decode cX4_count 101 = .ok (.ireturn, 1) := by decide +kernel
theorem dX4_count_102 : decode cX4_count 102 = .ok (.aload_n 0, 1) := by decide +kernel
theorem dX4_count_103 : decode cX4_count 103 = .ok (.getfield 7, 3) := by decide +kernel
theorem dX4_count_106 : decode cX4_count 106 = .ok (.iconst 1, 1) := by decide +kernel
theorem dX4_count_107 : decode cX4_count 107 = .ok (.iaload, 1) := by decide +kernel
theorem dX4_count_108 : decode cX4_count 108 = .ok (.ireturn, 1) := by decide +kernel
theorem dX4_count_109 : decode cX4_count 109 = .ok (.aload_n 0, 1) := by decide +kernel
theorem dX4_count_110 : decode cX4_count 110 = .ok (.getfield 7, 3) := by decide +kernel
theorem dX4_count_113 : decode cX4_count 113 = .ok (.iconst 3, 1) := by decide +kernel
theorem dX4_count_114 : decode cX4_count 114 = .ok (.iload_n 1, 1) := by decide +kernel
theorem dX4_count_115 : decode cX4_count 115 = .ok (.iadd, 1) := by decide +kernel
theorem dX4_count_116 : decode cX4_count 116 = .ok (.bipush 7, 2) := by decide +kernel
theorem dX4_count_118 : decode cX4_count 118 = .ok (.isub, 1) := by decide +kernel
theorem dX4_count_119 : decode cX4_count 119 = .ok (.iaload, 1) := by decide +kernel
theorem dX4_count_120 : decode cX4_count 120 = .ok (.ireturn, 1) := by decide +kernel
theorem dX4_count_121 : decode cX4_count 121 = .ok (.aload_n 0, 1) := by decide +kernel
theorem dX4_count_122 : decode cX4_count 122 = .ok (.getfield 135, 3) := by decide +kernel
theorem dX4_count_125 : decode cX4_count 125 = .ok (.ireturn, 1) := by decide +kernel
theorem dX4_count_126 : decode cX4_count 126 = .ok (.aload_n 0, 1) := by decide +kernel
theorem dX4_count_127 : decode cX4_count 127 = .ok (.getfield 38, 3) := by decide +kernel
theorem dX4_count_130 : decode cX4_count 130 = .ok (.ireturn, 1) := by decide +kernel
theorem dX4_count_131 : decode cX4_count 131 = .ok (.iconst (-1), 1) := by decide +kernel
theorem dX4_count_132 : decode cX4_count 132 = .ok (.ireturn, 1) := by decide +kernel
theorem dX4_peace_0 : decode cX4_peace 0 = .ok (.aload_n 0, 1) := by decide +kernel
theorem dX4_peace_1 : decode cX4_peace 1 = .ok (.invokevirtual 194, 3) := by decide +kernel
theorem dX4_peace_4 : decode cX4_peace 4 = .ok (.ifCond .ne 7, 3) := by decide +kernel
theorem dX4_peace_7 : decode cX4_peace 7 = .ok (.dconst 1, 1) := by decide +kernel
theorem dX4_peace_8 : decode cX4_peace 8 = .ok (.goto 19, 3) := by decide +kernel
theorem dX4_peace_11 : decode cX4_peace 11 = .ok (.aload_n 0, 1) := by decide +kernel
theorem dX4_peace_12 : decode cX4_peace 12 = .ok (.invokevirtual 194, 3) := by decide +kernel
theorem dX4_peace_15 : decode cX4_peace 15 = .ok (.aload_n 0, 1) := by decide +kernel
theorem dX4_peace_16 : decode cX4_peace 16 = .ok (.invokevirtual 123, 3) := by decide +kernel
theorem dX4_peace_19 : decode cX4_peace 19 = .ok (.isub, 1) := by decide +kernel
theorem dX4_peace_20 : decode cX4_peace 20 = .ok (.i2d, 1) := by decide +kernel
theorem dX4_peace_21 : decode cX4_peace 21 = .ok (.aload_n 0, 1) := by decide +kernel
theorem dX4_peace_22 : decode cX4_peace 22 = .ok (.invokevirtual 194, 3) := by decide +kernel
theorem dX4_peace_25 : decode cX4_peace 25 = .ok (.i2d, 1) := by decide +kernel
theorem dX4_peace_26 : decode cX4_peace 26 = .ok (.ddiv, 1) := by decide +kernel
theorem dX4_peace_27 : decode cX4_peace 27 = .ok (.dreturn, 1) := by decide +kernel
theorem dX4_ifDays_0 : decode cX4_ifDays 0 = .ok (.iload_n 1, 1) := by decide +kernel
theorem dX4_ifDays_1 : decode cX4_ifDays 1 = .ok (.iconst 1, 1) := by decide +kernel
theorem dX4_ifDays_2 : decode cX4_ifDays 2 = .ok (.bipush 30, 2) := by decide +kernel
theorem dX4_ifDays_4 : decode cX4_ifDays 4 = .ok (.invokestatic 46, 3) := by decide +kernel
theorem dX4_ifDays_7 : decode cX4_ifDays 7 = .ok (.ifCond .eq 12, 3) := by decide +kernel
theorem dX4_ifDays_10 : decode cX4_ifDays 10 = .ok (.iload_n 2, 1) := by decide +kernel
theorem dX4_ifDays_11 : decode cX4_ifDays 11 = .ok (.iconst 0, 1) := by decide +kernel
theorem dX4_ifDays_12 : decode cX4_ifDays 12 = .ok (.iconst 1, 1) := by decide +kernel
theorem dX4_ifDays_13 : decode cX4_ifDays 13 = .ok (.invokestatic 46, 3) := by decide +kernel
theorem dX4_ifDays_16 : decode cX4_ifDays 16 = .ok (.ifCond .ne 5, 3) := by decide +kernel
theorem dX4_ifDays_19 : decode cX4_ifDays 19 = .ok (.iconst (-1), 1) := by decide +kernel
theorem dX4_ifDays_20 : decode cX4_ifDays 20 = .ok (.ireturn, 1) := by decide +kernel
theorem dX4_ifDays_21 : decode cX4_ifDays 21 = .ok (.aload_n 0, 1) := by decide +kernel
theorem dX4_ifDays_22 : decode cX4_ifDays 22 = .ok (.getfield 7, 3) := by decide +kernel
theorem dX4_ifDays_25 : decode cX4_ifDays 25 = .ok (.iconst 0, 1) := by decide +kernel
theorem dX4_ifDays_26 : decode cX4_ifDays 26 = .ok (.aload_n 0, 1) := by decide +kernel
theorem dX4_ifDays_27 : decode cX4_ifDays 27 = .ok (.getfield 13, 3) := by decide +kernel
theorem dX4_ifDays_30 : decode cX4_ifDays 30 = .ok (.iconst 0, 1) := by decide +kernel
theorem dX4_ifDays_31 : decode cX4_ifDays 31 = .ok (.invokestatic 42, 3) := by decide +kernel
theorem dX4_ifDays_34 : decode cX4_ifDays 34 = .ok (.iconst 0, 1) := by decide +kernel
theorem dX4_ifDays_35 : decode cX4_ifDays 35 = .ok (.istore_n 3, 1) := by decide +kernel
theorem dX4_ifDays_36 : decode cX4_ifDays 36 = .ok (.iload_n 3, 1) := by decide +kernel
theorem dX4_ifDays_37 : decode cX4_ifDays 37 = .ok (.iload_n 1, 1) := by decide +kernel
theorem dX4_ifDays_38 : decode cX4_ifDays 38 = .ok (.if_icmp .ge 13, 3) := by decide +kernel
theorem dX4_ifDays_41 : decode cX4_ifDays 41 = .ok (.aload_n 0, 1) := by decide +kernel
theorem dX4_ifDays_42 : decode cX4_ifDays 42 = .ok (.invokevirtual 120, 3) := by decide +kernel
theorem dX4_ifDays_45 : decode cX4_ifDays 45 = .ok (.iinc 3 1, 3) := by decide +kernel
theorem dX4_ifDays_48 : decode cX4_ifDays 48 = .ok (.goto (-12), 3) := by decide +kernel
theorem dX4_ifDays_51 : decode cX4_ifDays 51 = .ok (.iload_n 2, 1) := by decide +kernel
theorem dX4_ifDays_52 : decode cX4_ifDays 52 = .ok (.ifCond .ne 10, 3) := by decide +kernel
theorem dX4_ifDays_55 : decode cX4_ifDays 55 = .ok (.aload_n 0, 1) := by decide +kernel
theorem dX4_ifDays_56 : decode cX4_ifDays 56 = .ok (.invokevirtual 123, 3) := by decide +kernel
theorem dX4_ifDays_59 : decode cX4_ifDays 59 = .ok (.goto 7, 3) := by decide +kernel
theorem dX4_ifDays_62 : decode cX4_ifDays 62 = .ok (.aload_n 0, 1) := by decide +kernel
theorem dX4_ifDays_63 : decode cX4_ifDays 63 = .ok (.invokevirtual 197, 3) := by decide +kernel
theorem dX4_ifDays_66 : decode cX4_ifDays 66 = .ok (.istore_n 3, 1) := by decide +kernel
theorem dX4_ifDays_67 : decode cX4_ifDays 67 = .ok (.aload_n 0, 1) := by decide +kernel
theorem dX4_ifDays_68 : decode cX4_ifDays 68 = .ok (.getfield 13, 3) := by decide +kernel
theorem dX4_ifDays_71 : decode cX4_ifDays 71 = .ok (.iconst 0, 1) := by decide +kernel
theorem dX4_ifDays_72 : decode cX4_ifDays 72 = .ok (.aload_n 0, 1) := by decide +kernel
theorem dX4_ifDays_73 : decode cX4_ifDays 73 = .ok (.getfield 7, 3) := by decide +kernel
theorem dX4_ifDays_76 : decode cX4_ifDays 76 = .ok (.iconst 0, 1) := by decide +kernel
theorem dX4_ifDays_77 : decode cX4_ifDays 77 = .ok (.invokestatic 42, 3) := by decide +kernel
theorem dX4_ifDays_80 : decode cX4_ifDays 80 = .ok (.iload_n 3, 1) := by decide +kernel
theorem dX4_ifDays_81 : decode cX4_ifDays 81 = .ok (.ireturn, 1) := by decide +kernel
theorem dX4_breaksIn_0 : decode cX4_breaksIn 0 = .ok (.aload_n 0, 1) := by decide +kernel
theorem dX4_breaksIn_1 : decode cX4_breaksIn 1 = .ok (.getfield 7, 3) := by decide +kernel
theorem dX4_breaksIn_4 : decode cX4_breaksIn 4 = .ok (.iconst 0, 1) := by decide +kernel
theorem dX4_breaksIn_5 : decode cX4_breaksIn 5 = .ok (.aload_n 0, 1) := by decide +kernel
theorem dX4_breaksIn_6 : decode cX4_breaksIn 6 = .ok (.getfield 13, 3) := by decide +kernel
theorem dX4_breaksIn_9 : decode cX4_breaksIn 9 = .ok (.iconst 0, 1) := by decide +kernel
theorem dX4_breaksIn_10 : decode cX4_breaksIn 10 = .ok (.invokestatic 42, 3) := by decide +kernel
theorem dX4_breaksIn_13 : decode cX4_breaksIn 13 = .ok (.iconst 0, 1) := by decide +kernel
theorem dX4_breaksIn_14 : decode cX4_breaksIn 14 = .ok (.istore_n 1, 1) := by decide +kernel
theorem dX4_breaksIn_15 : decode cX4_breaksIn 15 = .ok (.iload_n 1, 1) := by decide +kernel
theorem dX4_breaksIn_16 : decode cX4_breaksIn 16 = .ok (.bipush 60, 2) := by decide +kernel
theorem dX4_breaksIn_18 : decode cX4_breaksIn 18 = .ok (.if_icmp .ge 20, 3) := by decide +kernel
theorem dX4_breaksIn_21 : decode cX4_breaksIn 21 = .ok (.aload_n 0, 1) := by decide +kernel
theorem dX4_breaksIn_22 : decode cX4_breaksIn 22 = .ok (.invokevirtual 123, 3) := by decide +kernel
theorem dX4_breaksIn_25 : decode cX4_breaksIn 25 = .ok (.ifCond .ne 13, 3) := by decide +kernel
theorem dX4_breaksIn_28 : decode cX4_breaksIn 28 = .ok (.aload_n 0, 1) := by decide +kernel
theorem dX4_breaksIn_29 : decode cX4_breaksIn 29 = .ok (.invokevirtual 120, 3) := by decide +kernel
theorem dX4_breaksIn_32 : decode cX4_breaksIn 32 = .ok (.iinc 1 1, 3) := by decide +kernel
theorem dX4_breaksIn_35 : decode cX4_breaksIn 35 = .ok (.goto (-20), 3) := by decide +kernel
theorem dX4_breaksIn_38 : decode cX4_breaksIn 38 = .ok (.aload_n 0, 1) := by decide +kernel
theorem dX4_breaksIn_39 : decode cX4_breaksIn 39 = .ok (.invokevirtual 123, 3) := by decide +kernel
theorem dX4_breaksIn_42 : decode cX4_breaksIn 42 = .ok (.ifCond .ne 8, 3) := by decide +kernel
theorem dX4_breaksIn_45 : decode cX4_breaksIn 45 = .ok (.bipush (-4), 2) := by decide +kernel
theorem dX4_breaksIn_47 : decode cX4_breaksIn 47 = .ok (.goto 4, 3) := by decide +kernel
theorem dX4_breaksIn_50 : decode cX4_breaksIn 50 = .ok (.iload_n 1, 1) := by decide +kernel
theorem dX4_breaksIn_51 : decode cX4_breaksIn 51 = .ok (.istore_n 2, 1) := by decide +kernel
theorem dX4_breaksIn_52 : decode cX4_breaksIn 52 = .ok (.aload_n 0, 1) := by decide +kernel
theorem dX4_breaksIn_53 : decode cX4_breaksIn 53 = .ok (.getfield 13, 3) := by decide +kernel
theorem dX4_breaksIn_56 : decode cX4_breaksIn 56 = .ok (.iconst 0, 1) := by decide +kernel
theorem dX4_breaksIn_57 : decode cX4_breaksIn 57 = .ok (.aload_n 0, 1) := by decide +kernel
theorem dX4_breaksIn_58 : decode cX4_breaksIn 58 = .ok (.getfield 7, 3) := by decide +kernel
theorem dX4_breaksIn_61 : decode cX4_breaksIn 61 = .ok (.iconst 0, 1) := by decide +kernel
theorem dX4_breaksIn_62 : decode cX4_breaksIn 62 = .ok (.invokestatic 42, 3) := by decide +kernel
theorem dX4_breaksIn_65 : decode cX4_breaksIn 65 = .ok (.iload_n 2, 1) := by decide +kernel
theorem dX4_breaksIn_66 : decode cX4_breaksIn 66 = .ok (.ireturn, 1) := by decide +kernel
theorem dX4_tightest_0 : decode cX4_tightest 0 = .ok (.iload_n 1, 1) := by decide +kernel
theorem dX4_tightest_1 : decode cX4_tightest 1 = .ok (.iload_n 2, 1) := by decide +kernel
theorem dX4_tightest_2 : decode cX4_tightest 2 = .ok (.invokestatic 90, 3) := by decide +kernel
theorem dX4_tightest_5 : decode cX4_tightest 5 = .ok (.ifCond .ne 5, 3) := by decide +kernel
theorem dX4_tightest_8 : decode cX4_tightest 8 = .ok (.iconst (-1), 1) := by decide +kernel
theorem dX4_tightest_9 : decode cX4_tightest 9 = .ok (.ireturn, 1) := by decide +kernel
theorem dX4_tightest_10 : decode cX4_tightest 10 = .ok (.bipush (-4), 2) := by decide +kernel
theorem dX4_tightest_12 : decode cX4_tightest 12 = .ok (.istore_n 3, 1) := by decide +kernel
theorem dX4_tightest_13 : decode cX4_tightest 13 = .ok (.bipush 60, 2) := by decide +kernel
theorem dX4_tightest_15 : decode cX4_tightest 15 = .ok (.istore 4, 2) := by decide +kernel
theorem dX4_tightest_17 : decode cX4_tightest 17 = .ok (.iload 4, 2) := by decide +kernel
theorem dX4_tightest_19 : decode cX4_tightest 19 = .ok (.bipush (-30), 2) := by decide +kernel
theorem dX4_tightest_21 : decode cX4_tightest 21 = .ok (.if_icmp .lt 30, 3) := by decide +kernel
theorem dX4_tightest_24 : decode cX4_tightest 24 = .ok (.aload_n 0, 1) := by decide +kernel
theorem dX4_tightest_25 : decode cX4_tightest 25 = .ok (.iload_n 1, 1) := by decide +kernel
theorem dX4_tightest_26 : decode cX4_tightest 26 = .ok (.iload_n 2, 1) := by decide +kernel
theorem dX4_tightest_27 : decode cX4_tightest 27 = .ok (.iload 4, 2) := by decide +kernel
theorem dX4_tightest_29 : decode cX4_tightest 29 = .ok (.invokevirtual 80, 3) := by decide +kernel
theorem dX4_tightest_32 : decode cX4_tightest 32 = .ok (.ifCond .eq 11, 3) := by decide +kernel
theorem dX4_tightest_35 : decode cX4_tightest 35 = .ok (.iload 4, 2) := by decide +kernel
theorem dX4_tightest_37 : decode cX4_tightest 37 = .ok (.bipush 100, 2) := by decide +kernel
theorem dX4_tightest_39 : decode cX4_tightest 39 = .ok (.iadd, 1) := by decide +kernel
theorem dX4_tightest_40 : decode cX4_tightest 40 = .ok (.goto 4, 3) := by decide +kernel
theorem dX4_tightest_43 : decode cX4_tightest 43 = .ok (.iload_n 3, 1) := by decide +kernel
theorem dX4_tightest_44 : decode cX4_tightest 44 = .ok (.istore_n 3, 1) := by decide +kernel
theorem dX4_tightest_45 : decode cX4_tightest 45 = .ok (.iinc 4 (-1), 3) := by decide +kernel
theorem dX4_tightest_48 : decode cX4_tightest 48 = .ok (.goto (-31), 3) := by decide +kernel
theorem dX4_tightest_51 : decode cX4_tightest 51 = .ok (.iload_n 3, 1) := by decide +kernel
theorem dX4_tightest_52 : decode cX4_tightest 52 = .ok (.ireturn, 1) := by decide +kernel
theorem dX4_undo_0 : decode cX4_undo 0 = .ok (.aload_n 0, 1) := by decide +kernel
theorem dX4_undo_1 : decode cX4_undo 1 = .ok (.getfield 38, 3) := by decide +kernel
theorem dX4_undo_4 : decode cX4_undo 4 = .ok (.ifCond .ne 6, 3) := by decide +kernel
theorem dX4_undo_7 : decode cX4_undo 7 = .ok (.bipush (-2), 2) := by decide +kernel
theorem dX4_undo_9 : decode cX4_undo 9 = .ok (.ireturn, 1) := by decide +kernel
theorem dX4_undo_10 : decode cX4_undo 10 = .ok (.aload_n 0, 1) := by decide +kernel
theorem dX4_undo_11 : decode cX4_undo 11 = .ok (.dup, 1) := by decide +kernel
theorem dX4_undo_12 : decode cX4_undo 12 = .ok (.getfield 38, 3) := by decide +kernel
theorem dX4_undo_15 : decode cX4_undo 15 = .ok (.iconst 1, 1) := by decide +kernel
theorem dX4_undo_16 : decode cX4_undo 16 = .ok (.isub, 1) := by decide +kernel
theorem dX4_undo_17 : decode cX4_undo 17 = .ok (.putfield 38, 3) := by decide +kernel
theorem dX4_undo_20 : decode cX4_undo 20 = .ok (.aload_n 0, 1) := by decide +kernel
theorem dX4_undo_21 : decode cX4_undo 21 = .ok (.getfield 16, 3) := by decide +kernel
theorem dX4_undo_24 : decode cX4_undo 24 = .ok (.bipush 95, 2) := by decide +kernel
theorem dX4_undo_26 : decode cX4_undo 26 = .ok (.aload_n 0, 1) := by decide +kernel
theorem dX4_undo_27 : decode cX4_undo 27 = .ok (.getfield 38, 3) := by decide +kernel
theorem dX4_undo_30 : decode cX4_undo 30 = .ok (.imul, 1) := by decide +kernel
theorem dX4_undo_31 : decode cX4_undo 31 = .ok (.aload_n 0, 1) := by decide +kernel
theorem dX4_undo_32 : decode cX4_undo 32 = .ok (.getfield 7, 3) := by decide +kernel
theorem dX4_undo_35 : decode cX4_undo 35 = .ok (.iconst 0, 1) := by decide +kernel
theorem dX4_undo_36 : decode cX4_undo 36 = .ok (.invokestatic 42, 3) := by decide +kernel
theorem dX4_undo_39 : decode cX4_undo 39 = .ok (.aload_n 0, 1) := by decide +kernel
theorem dX4_undo_40 : decode cX4_undo 40 = .ok (.getfield 38, 3) := by decide +kernel
theorem dX4_undo_43 : decode cX4_undo 43 = .ok (.ireturn, 1) := by decide +kernel
theorem dX4_save_0 : decode cX4_save 0 = .ok (.aload_n 0, 1) := by decide +kernel
theorem dX4_save_1 : decode cX4_save 1 = .ok (.getfield 7, 3) := by decide +kernel
theorem dX4_save_4 : decode cX4_save 4 = .ok (.iconst 0, 1) := by decide +kernel
theorem dX4_save_5 : decode cX4_save 5 = .ok (.aload_n 0, 1) := by decide +kernel
theorem dX4_save_6 : decode cX4_save 6 = .ok (.getfield 19, 3) := by decide +kernel
theorem dX4_save_9 : decode cX4_save 9 = .ok (.iconst 0, 1) := by decide +kernel
theorem dX4_save_10 : decode cX4_save 10 = .ok (.invokestatic 42, 3) := by decide +kernel
theorem dX4_save_13 : decode cX4_save 13 = .ok (.aload_n 0, 1) := by decide +kernel
theorem dX4_save_14 : decode cX4_save 14 = .ok (.iconst 1, 1) := by decide +kernel
theorem dX4_save_15 : decode cX4_save 15 = .ok (.putfield 203, 3) := by decide +kernel
theorem dX4_save_18 : decode cX4_save 18 = .ok (.aload_n 0, 1) := by decide +kernel
theorem dX4_save_19 : decode cX4_save 19 = .ok (.getfield 7, 3) := by decide +kernel
theorem dX4_save_22 : decode cX4_save 22 = .ok (.iconst 2, 1) := by decide +kernel
theorem dX4_save_23 : decode cX4_save 23 = .ok (.iaload, 1) := by decide +kernel
theorem dX4_save_24 : decode cX4_save 24 = .ok (.ireturn, 1) := by decide +kernel
theorem dX4_restore_0 : decode cX4_restore 0 = .ok (.aload_n 0, 1) := by decide +kernel
theorem dX4_restore_1 : decode cX4_restore 1 = .ok (.getfield 203, 3) := by decide +kernel
theorem dX4_restore_4 : decode cX4_restore 4 = .ok (.ifCond .ne 6, 3) := by decide +kernel
theorem dX4_restore_7 : decode cX4_restore 7 = .ok (.bipush (-2), 2) := by decide +kernel
theorem dX4_restore_9 : decode cX4_restore 9 = .ok (.ireturn, 1) := by decide +kernel
theorem dX4_restore_10 : decode cX4_restore 10 = .ok (.aload_n 0, 1) := by decide +kernel
theorem dX4_restore_11 : decode cX4_restore 11 = .ok (.invokevirtual 113, 3) := by decide +kernel
theorem dX4_restore_14 : decode cX4_restore 14 = .ok (.aload_n 0, 1) := by decide +kernel
theorem dX4_restore_15 : decode cX4_restore 15 = .ok (.getfield 19, 3) := by decide +kernel
theorem dX4_restore_18 : decode cX4_restore 18 = .ok (.iconst 0, 1) := by decide +kernel
theorem dX4_restore_19 : decode cX4_restore 19 = .ok (.aload_n 0, 1) := by decide +kernel
theorem dX4_restore_20 : decode cX4_restore 20 = .ok (.getfield 7, 3) := by decide +kernel
theorem dX4_restore_23 : decode cX4_restore 23 = .ok (.iconst 0, 1) := by decide +kernel
theorem dX4_restore_24 : decode cX4_restore 24 = .ok (.invokestatic 42, 3) := by decide +kernel
theorem dX4_restore_27 : decode cX4_restore 27 = .ok (.aload_n 0, 1) := by decide +kernel
theorem dX4_restore_28 : decode cX4_restore 28 = .ok (.getfield 7, 3) := by decide +kernel
theorem dX4_restore_31 : decode cX4_restore 31 = .ok (.iconst 2, 1) := by decide +kernel
theorem dX4_restore_32 : decode cX4_restore 32 = .ok (.iaload, 1) := by decide +kernel
theorem dX4_restore_33 : decode cX4_restore 33 = .ok (.ireturn, 1) := by decide +kernel
end
section
theorem dL_law_0 : decode cL_law 0 = .ok (.new 7, 3) := by decide +kernel
theorem dL_law_3 : decode cL_law 3 = .ok (.dup, 1) := by decide +kernel
theorem dL_law_4 : decode cL_law 4 = .ok (.invokespecial 9, 3) := by decide +kernel
theorem dL_law_7 : decode cL_law 7 = .ok (.astore_n 1, 1) := by decide +kernel
theorem dL_law_8 : decode cL_law 8 = .ok (.new 10, 3) := by decide +kernel
theorem dL_law_11 : decode cL_law 11 = .ok (.dup, 1) := by decide +kernel
theorem dL_law_12 : decode cL_law 12 = .ok (.invokespecial 12, 3) := by decide +kernel
theorem dL_law_15 : decode cL_law 15 = .ok (.astore_n 2, 1) := by decide +kernel
theorem dL_law_16 : decode cL_law 16 = .ok (.iconst 0, 1) := by decide +kernel
theorem dL_law_17 : decode cL_law 17 = .ok (.istore_n 3, 1) := by decide +kernel
theorem dL_law_18 : decode cL_law 18 = .ok (.iload_n 3, 1) := by decide +kernel
theorem dL_law_19 : decode cL_law 19 = .ok (.aload_n 0, 1) := by decide +kernel
theorem dL_law_20 : decode cL_law 20 = .ok (.arraylength, 1) := by decide +kernel
theorem dL_law_21 : decode cL_law 21 = .ok (.iconst 4, 1) := by decide +kernel
theorem dL_law_22 : decode cL_law 22 = .ok (.isub, 1) := by decide +kernel
theorem dL_law_23 : decode cL_law 23 = .ok (.if_icmp .gt 865, 3) := by decide +kernel
theorem dL_law_26 : decode cL_law 26 = .ok (.aload_n 0, 1) := by decide +kernel
theorem dL_law_27 : decode cL_law 27 = .ok (.iload_n 3, 1) := by decide +kernel
theorem dL_law_28 : decode cL_law 28 = .ok (.iaload, 1) := by decide +kernel
theorem dL_law_29 : decode cL_law 29 = .ok (.bipush 31, 2) := by decide +kernel
theorem dL_law_31 : decode cL_law 31 = .ok (.iand, 1) := by decide +kernel
theorem dL_law_32 : decode cL_law 32 = .ok (.tableswitch 850 0 27 #[128, 161, 194, 227, 260, 273, 286, 329, 352, 385, 408, 431, 444, 457, 470, 493, 526, 559, 602, 645, 668, 691, 732, 765, 778, 811, 824, 837], 128) := by decide +kernel
theorem dL_law_160 : decode cL_law 160 = .ok (.aload_n 1, 1) := by decide +kernel
theorem dL_law_161 : decode cL_law 161 = .ok (.aload_n 0, 1) := by decide +kernel
theorem dL_law_162 : decode cL_law 162 = .ok (.iload_n 3, 1) := by decide +kernel
theorem dL_law_163 : decode cL_law 163 = .ok (.iconst 1, 1) := by decide +kernel
theorem dL_law_164 : decode cL_law 164 = .ok (.iadd, 1) := by decide +kernel
theorem dL_law_165 : decode cL_law 165 = .ok (.iaload, 1) := by decide +kernel
theorem dL_law_166 : decode cL_law 166 = .ok (.aload_n 0, 1) := by decide +kernel
theorem dL_law_167 : decode cL_law 167 = .ok (.iload_n 3, 1) := by decide +kernel
theorem dL_law_168 : decode cL_law 168 = .ok (.iconst 2, 1) := by decide +kernel
theorem dL_law_169 : decode cL_law 169 = .ok (.iadd, 1) := by decide +kernel
theorem dL_law_170 : decode cL_law 170 = .ok (.iaload, 1) := by decide +kernel
theorem dL_law_171 : decode cL_law 171 = .ok (.invokevirtual 13, 3) := by decide +kernel
theorem dL_law_174 : decode cL_law 174 = .ok (.aload_n 2, 1) := by decide +kernel
theorem dL_law_175 : decode cL_law 175 = .ok (.aload_n 0, 1) := by decide +kernel
theorem dL_law_176 : decode cL_law 176 = .ok (.iload_n 3, 1) := by decide +kernel
theorem dL_law_177 : decode cL_law 177 = .ok (.iconst 1, 1) := by decide +kernel
theorem dL_law_178 : decode cL_law 178 = .ok (.iadd, 1) := by decide +kernel
theorem dL_law_179 : decode cL_law 179 = .ok (.iaload, 1) := by decide +kernel
theorem dL_law_180 : decode cL_law 180 = .ok (.aload_n 0, 1) := by decide +kernel
theorem dL_law_181 : decode cL_law 181 = .ok (.iload_n 3, 1) := by decide +kernel
theorem dL_law_182 : decode cL_law 182 = .ok (.iconst 2, 1) := by decide +kernel
theorem dL_law_183 : decode cL_law 183 = .ok (.iadd, 1) := by decide +kernel
theorem dL_law_184 : decode cL_law 184 = .ok (.iaload, 1) := by decide +kernel
theorem dL_law_185 : decode cL_law 185 = .ok (.invokevirtual 17, 3) := by decide +kernel
theorem dL_law_188 : decode cL_law 188 = .ok (.if_icmp .eq 694, 3) := by decide +kernel
theorem dL_law_191 : decode cL_law 191 = .ok (.iconst 0, 1) := by decide +kernel
theorem dL_law_192 : decode cL_law 192 = .ok (.ireturn, 1) := by decide +kernel
theorem dL_law_193 : decode cL_law 193 = .ok (.aload_n 1, 1) := by decide +kernel
theorem dL_law_194 : decode cL_law 194 = .ok (.aload_n 0, 1) := by decide +kernel
theorem dL_law_195 : decode cL_law 195 = .ok (.iload_n 3, 1) := by decide +kernel
theorem dL_law_196 : decode cL_law 196 = .ok (.iconst 1, 1) := by decide +kernel
theorem dL_law_197 : decode cL_law 197 = .ok (.iadd, 1) := by decide +kernel
theorem dL_law_198 : decode cL_law 198 = .ok (.iaload, 1) := by decide +kernel
theorem dL_law_199 : decode cL_law 199 = .ok (.aload_n 0, 1) := by decide +kernel
theorem dL_law_200 : decode cL_law 200 = .ok (.iload_n 3, 1) := by decide +kernel
theorem dL_law_201 : decode cL_law 201 = .ok (.iconst 2, 1) := by decide +kernel
theorem dL_law_202 : decode cL_law 202 = .ok (.iadd, 1) := by decide +kernel
theorem dL_law_203 : decode cL_law 203 = .ok (.iaload, 1) := by decide +kernel
theorem dL_law_204 : decode cL_law 204 = .ok (.invokevirtual 18, 3) := by decide +kernel
theorem dL_law_207 : decode cL_law 207 = .ok (.aload_n 2, 1) := by decide +kernel
theorem dL_law_208 : decode cL_law 208 = .ok (.aload_n 0, 1) := by decide +kernel
theorem dL_law_209 : decode cL_law 209 = .ok (.iload_n 3, 1) := by decide +kernel
theorem dL_law_210 : decode cL_law 210 = .ok (.iconst 1, 1) := by decide +kernel
theorem dL_law_211 : decode cL_law 211 = .ok (.iadd, 1) := by decide +kernel
theorem dL_law_212 : decode cL_law 212 = .ok (.iaload, 1) := by decide +kernel
theorem dL_law_213 : decode cL_law 213 = .ok (.aload_n 0, 1) := by decide +kernel
theorem dL_law_214 : decode cL_law 214 = .ok (.iload_n 3, 1) := by decide +kernel
theorem dL_law_215 : decode cL_law 215 = .ok (.iconst 2, 1) := by decide +kernel
theorem dL_law_216 : decode cL_law 216 = .ok (.iadd, 1) := by decide +kernel
theorem dL_law_217 : decode cL_law 217 = .ok (.iaload, 1) := by decide +kernel
theorem dL_law_218 : decode cL_law 218 = .ok (.invokevirtual 21, 3) := by decide +kernel
theorem dL_law_221 : decode cL_law 221 = .ok (.if_icmp .eq 661, 3) := by decide +kernel
theorem dL_law_224 : decode cL_law 224 = .ok (.iconst 0, 1) := by decide +kernel
theorem dL_law_225 : decode cL_law 225 = .ok (.ireturn, 1) := by decide +kernel
theorem dL_law_226 : decode cL_law 226 = .ok (.aload_n 1, 1) := by decide +kernel
theorem dL_law_227 : decode cL_law 227 = .ok (.aload_n 0, 1) := by decide +kernel
theorem dL_law_228 : decode cL_law 228 = .ok (.iload_n 3, 1) := by decide +kernel
theorem dL_law_229 : decode cL_law 229 = .ok (.iconst 1, 1) := by decide +kernel
theorem dL_law_230 : decode cL_law 230 = .ok (.iadd, 1) := by decide +kernel
theorem dL_law_231 : decode cL_law 231 = .ok (.iaload, 1) := by decide +kernel
theorem dL_law_232 : decode cL_law 232 = .ok (.aload_n 0, 1) := by decide +kernel
theorem dL_law_233 : decode cL_law 233 = .ok (.iload_n 3, 1) := by decide +kernel
theorem dL_law_234 : decode cL_law 234 = .ok (.iconst 2, 1) := by decide +kernel
theorem dL_law_235 : decode cL_law 235 = .ok (.iadd, 1) := by decide +kernel
theorem dL_law_236 : decode cL_law 236 = .ok (.iaload, 1) := by decide +kernel
theorem dL_law_237 : decode cL_law 237 = .ok (.invokevirtual 22, 3) := by decide +kernel
theorem dL_law_240 : decode cL_law 240 = .ok (.aload_n 2, 1) := by decide +kernel
theorem dL_law_241 : decode cL_law 241 = .ok (.aload_n 0, 1) := by decide +kernel
theorem dL_law_242 : decode cL_law 242 = .ok (.iload_n 3, 1) := by decide +kernel
theorem dL_law_243 : decode cL_law 243 = .ok (.iconst 1, 1) := by decide +kernel
theorem dL_law_244 : decode cL_law 244 = .ok (.iadd, 1) := by decide +kernel
theorem dL_law_245 : decode cL_law 245 = .ok (.iaload, 1) := by decide +kernel
theorem dL_law_246 : decode cL_law 246 = .ok (.aload_n 0, 1) := by decide +kernel
theorem dL_law_247 : decode cL_law 247 = .ok (.iload_n 3, 1) := by decide +kernel
theorem dL_law_248 : decode cL_law 248 = .ok (.iconst 2, 1) := by decide +kernel
theorem dL_law_249 : decode cL_law 249 = .ok (.iadd, 1) := by decide +kernel
theorem dL_law_250 : decode cL_law 250 = .ok (.iaload, 1) := by decide +kernel
theorem dL_law_251 : decode cL_law 251 = .ok (.invokevirtual 25, 3) := by decide +kernel
theorem dL_law_254 : decode cL_law 254 = .ok (.if_icmp .eq 628, 3) := by decide +kernel
theorem dL_law_257 : decode cL_law 257 = .ok (.iconst 0, 1) := by decide +kernel
theorem dL_law_258 : decode cL_law 258 = .ok (.ireturn, 1) := by decide +kernel
theorem dL_law_259 : decode cL_law 259 = .ok (.aload_n 1, 1) := by decide +kernel
theorem dL_law_260 : decode cL_law 260 = .ok (.aload_n 0, 1) := by decide +kernel
theorem dL_law_261 : decode cL_law 261 = .ok (.iload_n 3, 1) := by decide +kernel
theorem dL_law_262 : decode cL_law 262 = .ok (.iconst 1, 1) := by decide +kernel
theorem dL_law_263 : decode cL_law 263 = .ok (.iadd, 1) := by decide +kernel
theorem dL_law_264 : decode cL_law 264 = .ok (.iaload, 1) := by decide +kernel
theorem dL_law_265 : decode cL_law 265 = .ok (.aload_n 0, 1) := by decide +kernel
theorem dL_law_266 : decode cL_law 266 = .ok (.iload_n 3, 1) := by decide +kernel
theorem dL_law_267 : decode cL_law 267 = .ok (.iconst 2, 1) := by decide +kernel
theorem dL_law_268 : decode cL_law 268 = .ok (.iadd, 1) := by decide +kernel
theorem dL_law_269 : decode cL_law 269 = .ok (.iaload, 1) := by decide +kernel
theorem dL_law_270 : decode cL_law 270 = .ok (.invokevirtual 26, 3) := by decide +kernel
theorem dL_law_273 : decode cL_law 273 = .ok (.aload_n 2, 1) := by decide +kernel
theorem dL_law_274 : decode cL_law 274 = .ok (.aload_n 0, 1) := by decide +kernel
theorem dL_law_275 : decode cL_law 275 = .ok (.iload_n 3, 1) := by decide +kernel
theorem dL_law_276 : decode cL_law 276 = .ok (.iconst 1, 1) := by decide +kernel
theorem dL_law_277 : decode cL_law 277 = .ok (.iadd, 1) := by decide +kernel
theorem dL_law_278 : decode cL_law 278 = .ok (.iaload, 1) := by decide +kernel
theorem dL_law_279 : decode cL_law 279 = .ok (.aload_n 0, 1) := by decide +kernel
theorem dL_law_280 : decode cL_law 280 = .ok (.iload_n 3, 1) := by decide +kernel
theorem dL_law_281 : decode cL_law 281 = .ok (.iconst 2, 1) := by decide +kernel
theorem dL_law_282 : decode cL_law 282 = .ok (.iadd, 1) := by decide +kernel
theorem dL_law_283 : decode cL_law 283 = .ok (.iaload, 1) := by decide +kernel
theorem dL_law_284 : decode cL_law 284 = .ok (.invokevirtual 29, 3) := by decide +kernel
theorem dL_law_287 : decode cL_law 287 = .ok (.if_icmp .eq 595, 3) := by decide +kernel
theorem dL_law_290 : decode cL_law 290 = .ok (.iconst 0, 1) := by decide +kernel
theorem dL_law_291 : decode cL_law 291 = .ok (.ireturn, 1) := by decide +kernel
theorem dL_law_292 : decode cL_law 292 = .ok (.aload_n 1, 1) := by decide +kernel
theorem dL_law_293 : decode cL_law 293 = .ok (.invokevirtual 30, 3) := by decide +kernel
theorem dL_law_296 : decode cL_law 296 = .ok (.aload_n 2, 1) := by decide +kernel
theorem dL_law_297 : decode cL_law 297 = .ok (.invokevirtual 34, 3) := by decide +kernel
theorem dL_law_300 : decode cL_law 300 = .ok (.if_icmp .eq 582, 3) := by decide +kernel
theorem dL_law_303 : decode cL_law 303 = .ok (.iconst 0, 1) := by decide +kernel
theorem dL_law_304 : decode cL_law 304 = .ok (.ireturn, 1) := by decide +kernel
theorem dL_law_305 : decode cL_law 305 = .ok (.aload_n 1, 1) := by decide +kernel
theorem dL_law_306 : decode cL_law 306 = .ok (.invokevirtual 35, 3) := by decide +kernel
theorem dL_law_309 : decode cL_law 309 = .ok (.aload_n 2, 1) := by decide +kernel
theorem dL_law_310 : decode cL_law 310 = .ok (.invokevirtual 38, 3) := by decide +kernel
theorem dL_law_313 : decode cL_law 313 = .ok (.if_icmp .eq 569, 3) := by decide +kernel
theorem dL_law_316 : decode cL_law 316 = .ok (.iconst 0, 1) := by decide +kernel
theorem dL_law_317 : decode cL_law 317 = .ok (.ireturn, 1) := by decide +kernel
theorem dL_law_318 : decode cL_law 318 = .ok (.aload_n 1, 1) := by decide +kernel
theorem dL_law_319 : decode cL_law 319 = .ok (.aload_n 0, 1) := by decide +kernel
theorem dL_law_320 : decode cL_law 320 = .ok (.iload_n 3, 1) := by decide +kernel
theorem dL_law_321 : decode cL_law 321 = .ok (.iconst 1, 1) := by decide +kernel
theorem dL_law_322 : decode cL_law 322 = .ok (.iadd, 1) := by decide +kernel
theorem dL_law_323 : decode cL_law 323 = .ok (.iaload, 1) := by decide +kernel
theorem dL_law_324 : decode cL_law 324 = .ok (.aload_n 0, 1) := by decide +kernel
theorem dL_law_325 : decode cL_law 325 = .ok (.iload_n 3, 1) := by decide +kernel
theorem dL_law_326 : decode cL_law 326 = .ok (.iconst 2, 1) := by decide +kernel
theorem dL_law_327 : decode cL_law 327 = .ok (.iadd, 1) := by decide +kernel
theorem dL_law_328 : decode cL_law 328 = .ok (.iaload, 1) := by decide +kernel
theorem dL_law_329 : decode cL_law 329 = .ok (.aload_n 0, 1) := by decide +kernel
theorem dL_law_330 : decode cL_law 330 = .ok (.iload_n 3, 1) := by decide +kernel
theorem dL_law_331 : decode cL_law 331 = .ok (.iconst 3, 1) := by decide +kernel
theorem dL_law_332 : decode cL_law 332 = .ok (.iadd, 1) := by decide +kernel
theorem dL_law_333 : decode cL_law 333 = .ok (.iaload, 1) := by decide +kernel
theorem dL_law_334 : decode cL_law 334 = .ok (.invokevirtual 39, 3) := by decide +kernel
theorem dL_law_337 : decode cL_law 337 = .ok (.aload_n 2, 1) := by decide +kernel
theorem dL_law_338 : decode cL_law 338 = .ok (.aload_n 0, 1) := by decide +kernel
theorem dL_law_339 : decode cL_law 339 = .ok (.iload_n 3, 1) := by decide +kernel
theorem dL_law_340 : decode cL_law 340 = .ok (.iconst 1, 1) := by decide +kernel
theorem dL_law_341 : decode cL_law 341 = .ok (.iadd, 1) := by decide +kernel
theorem dL_law_342 : decode cL_law 342 = .ok (.iaload, 1) := by decide +kernel
theorem dL_law_343 : decode cL_law 343 = .ok (.aload_n 0, 1) := by decide +kernel
theorem dL_law_344 : decode cL_law 344 = .ok (.iload_n 3, 1) := by decide +kernel
theorem dL_law_345 : decode cL_law 345 = .ok (.iconst 2, 1) := by decide +kernel
theorem dL_law_346 : decode cL_law 346 = .ok (.iadd, 1) := by decide +kernel
theorem dL_law_347 : decode cL_law 347 = .ok (.iaload, 1) := by decide +kernel
theorem dL_law_348 : decode cL_law 348 = .ok (.aload_n 0, 1) := by decide +kernel
theorem dL_law_349 : decode cL_law 349 = .ok (.iload_n 3, 1) := by decide +kernel
theorem dL_law_350 : decode cL_law 350 = .ok (.iconst 3, 1) := by decide +kernel
theorem dL_law_351 : decode cL_law 351 = .ok (.iadd, 1) := by decide +kernel
theorem dL_law_352 : decode cL_law 352 = .ok (.iaload, 1) := by decide +kernel
theorem dL_law_353 : decode cL_law 353 = .ok (.invokevirtual 43, 3) := by decide +kernel
theorem dL_law_356 : decode cL_law 356 = .ok (.if_icmp .eq 526, 3) := by decide +kernel
theorem dL_law_359 : decode cL_law 359 = .ok (.iconst 0, 1) := by decide +kernel
theorem dL_law_360 : decode cL_law 360 = .ok (.ireturn, 1) := by decide +kernel
theorem dL_law_361 : decode cL_law 361 = .ok (.aload_n 1, 1) := by decide +kernel
theorem dL_law_362 : decode cL_law 362 = .ok (.aload_n 0, 1) := by decide +kernel
theorem dL_law_363 : decode cL_law 363 = .ok (.iload_n 3, 1) := by decide +kernel
theorem dL_law_364 : decode cL_law 364 = .ok (.iconst 1, 1) := by decide +kernel
theorem dL_law_365 : decode cL_law 365 = .ok (.iadd, 1) := by decide +kernel
theorem dL_law_366 : decode cL_law 366 = .ok (.iaload, 1) := by decide +kernel
theorem dL_law_367 : decode cL_law 367 = .ok (.invokevirtual 44, 3) := by decide +kernel
theorem dL_law_370 : decode cL_law 370 = .ok (.aload_n 2, 1) := by decide +kernel
theorem dL_law_371 : decode cL_law 371 = .ok (.aload_n 0, 1) := by decide +kernel
theorem dL_law_372 : decode cL_law 372 = .ok (.iload_n 3, 1) := by decide +kernel
theorem dL_law_373 : decode cL_law 373 = .ok (.iconst 1, 1) := by decide +kernel
theorem dL_law_374 : decode cL_law 374 = .ok (.iadd, 1) := by decide +kernel
theorem dL_law_375 : decode cL_law 375 = .ok (.iaload, 1) := by decide +kernel
theorem dL_law_376 : decode cL_law 376 = .ok (.invokevirtual 48, 3) := by decide +kernel
theorem dL_law_379 : decode cL_law 379 = .ok (.if_icmp .eq 503, 3) := by decide +kernel
theorem dL_law_382 : decode cL_law 382 = .ok (.iconst 0, 1) := by decide +kernel
theorem dL_law_383 : decode cL_law 383 = .ok (.ireturn, 1) := by decide +kernel
theorem dL_law_384 : decode cL_law 384 = .ok (.aload_n 1, 1) := by decide +kernel
theorem dL_law_385 : decode cL_law 385 = .ok (.aload_n 0, 1) := by decide +kernel
theorem dL_law_386 : decode cL_law 386 = .ok (.iload_n 3, 1) := by decide +kernel
theorem dL_law_387 : decode cL_law 387 = .ok (.iconst 1, 1) := by decide +kernel
theorem dL_law_388 : decode cL_law 388 = .ok (.iadd, 1) := by decide +kernel
theorem dL_law_389 : decode cL_law 389 = .ok (.iaload, 1) := by decide +kernel
theorem dL_law_390 : decode cL_law 390 = .ok (.aload_n 0, 1) := by decide +kernel
theorem dL_law_391 : decode cL_law 391 = .ok (.iload_n 3, 1) := by decide +kernel
theorem dL_law_392 : decode cL_law 392 = .ok (.iconst 2, 1) := by decide +kernel
theorem dL_law_393 : decode cL_law 393 = .ok (.iadd, 1) := by decide +kernel
theorem dL_law_394 : decode cL_law 394 = .ok (.iaload, 1) := by decide +kernel
theorem dL_law_395 : decode cL_law 395 = .ok (.invokevirtual 49, 3) := by decide +kernel
theorem dL_law_398 : decode cL_law 398 = .ok (.aload_n 2, 1) := by decide +kernel
theorem dL_law_399 : decode cL_law 399 = .ok (.aload_n 0, 1) := by decide +kernel
theorem dL_law_400 : decode cL_law 400 = .ok (.iload_n 3, 1) := by decide +kernel
theorem dL_law_401 : decode cL_law 401 = .ok (.iconst 1, 1) := by decide +kernel
theorem dL_law_402 : decode cL_law 402 = .ok (.iadd, 1) := by decide +kernel
theorem dL_law_403 : decode cL_law 403 = .ok (.iaload, 1) := by decide +kernel
theorem dL_law_404 : decode cL_law 404 = .ok (.aload_n 0, 1) := by decide +kernel
theorem dL_law_405 : decode cL_law 405 = .ok (.iload_n 3, 1) := by decide +kernel
theorem dL_law_406 : decode cL_law 406 = .ok (.iconst 2, 1) := by decide +kernel
theorem dL_law_407 : decode cL_law 407 = .ok (.iadd, 1) := by decide +kernel
theorem dL_law_408 : decode cL_law 408 = .ok (.iaload, 1) := by decide +kernel
theorem dL_law_409 : decode cL_law 409 = .ok (.invokevirtual 52, 3) := by decide +kernel
theorem dL_law_412 : decode cL_law 412 = .ok (.if_icmp .eq 470, 3) := by decide +kernel
theorem dL_law_415 : decode cL_law 415 = .ok (.iconst 0, 1) := by decide +kernel
theorem dL_law_416 : decode cL_law 416 = .ok (.ireturn, 1) := by decide +kernel
theorem dL_law_417 : decode cL_law 417 = .ok (.aload_n 1, 1) := by decide +kernel
theorem dL_law_418 : decode cL_law 418 = .ok (.aload_n 0, 1) := by decide +kernel
theorem dL_law_419 : decode cL_law 419 = .ok (.iload_n 3, 1) := by decide +kernel
theorem dL_law_420 : decode cL_law 420 = .ok (.iconst 1, 1) := by decide +kernel
theorem dL_law_421 : decode cL_law 421 = .ok (.iadd, 1) := by decide +kernel
theorem dL_law_422 : decode cL_law 422 = .ok (.iaload, 1) := by decide +kernel
theorem dL_law_423 : decode cL_law 423 = .ok (.invokevirtual 53, 3) := by decide +kernel
theorem dL_law_426 : decode cL_law 426 = .ok (.aload_n 2, 1) := by decide +kernel
theorem dL_law_427 : decode cL_law 427 = .ok (.aload_n 0, 1) := by decide +kernel
theorem dL_law_428 : decode cL_law 428 = .ok (.iload_n 3, 1) := by decide +kernel
theorem dL_law_429 : decode cL_law 429 = .ok (.iconst 1, 1) := by decide +kernel
theorem dL_law_430 : decode cL_law 430 = .ok (.iadd, 1) := by decide +kernel
theorem dL_law_431 : decode cL_law 431 = .ok (.iaload, 1) := by decide +kernel
theorem dL_law_432 : decode cL_law 432 = .ok (.invokevirtual 56, 3) := by decide +kernel
theorem dL_law_435 : decode cL_law 435 = .ok (.if_icmp .eq 447, 3) := by decide +kernel
theorem dL_law_438 : decode cL_law 438 = .ok (.iconst 0, 1) := by decide +kernel
theorem dL_law_439 : decode cL_law 439 = .ok (.ireturn, 1) := by decide +kernel
theorem dL_law_440 : decode cL_law 440 = .ok (.aload_n 1, 1) := by decide +kernel
theorem dL_law_441 : decode cL_law 441 = .ok (.aload_n 0, 1) := by decide +kernel
theorem dL_law_442 : decode cL_law 442 = .ok (.iload_n 3, 1) := by decide +kernel
theorem dL_law_443 : decode cL_law 443 = .ok (.iconst 1, 1) := by decide +kernel
theorem dL_law_444 : decode cL_law 444 = .ok (.iadd, 1) := by decide +kernel
theorem dL_law_445 : decode cL_law 445 = .ok (.iaload, 1) := by decide +kernel
theorem dL_law_446 : decode cL_law 446 = .ok (.invokevirtual 57, 3) := by decide +kernel
theorem dL_law_449 : decode cL_law 449 = .ok (.aload_n 2, 1) := by decide +kernel
theorem dL_law_450 : decode cL_law 450 = .ok (.aload_n 0, 1) := by decide +kernel
theorem dL_law_451 : decode cL_law 451 = .ok (.iload_n 3, 1) := by decide +kernel
theorem dL_law_452 : decode cL_law 452 = .ok (.iconst 1, 1) := by decide +kernel
theorem dL_law_453 : decode cL_law 453 = .ok (.iadd, 1) := by decide +kernel
theorem dL_law_454 : decode cL_law 454 = .ok (.iaload, 1) := by decide +kernel
theorem dL_law_455 : decode cL_law 455 = .ok (.invokevirtual 60, 3) := by decide +kernel
theorem dL_law_458 : decode cL_law 458 = .ok (.if_icmp .eq 424, 3) := by decide +kernel
theorem dL_law_461 : decode cL_law 461 = .ok (.iconst 0, 1) := by decide +kernel
theorem dL_law_462 : decode cL_law 462 = .ok (.ireturn, 1) := by decide +kernel
theorem dL_law_463 : decode cL_law 463 = .ok (.aload_n 1, 1) := by decide +kernel
theorem dL_law_464 : decode cL_law 464 = .ok (.invokevirtual 61, 3) := by decide +kernel
theorem dL_law_467 : decode cL_law 467 = .ok (.aload_n 2, 1) := by decide +kernel
theorem dL_law_468 : decode cL_law 468 = .ok (.invokevirtual 64, 3) := by decide +kernel
theorem dL_law_471 : decode cL_law 471 = .ok (.if_icmp .eq 411, 3) := by decide +kernel
theorem dL_law_474 : decode cL_law 474 = .ok (.iconst 0, 1) := by decide +kernel
theorem dL_law_475 : decode cL_law 475 = .ok (.ireturn, 1) := by decide +kernel
theorem dL_law_476 : decode cL_law 476 = .ok (.aload_n 1, 1) := by decide +kernel
theorem dL_law_477 : decode cL_law 477 = .ok (.invokevirtual 65, 3) := by decide +kernel
theorem dL_law_480 : decode cL_law 480 = .ok (.aload_n 2, 1) := by decide +kernel
theorem dL_law_481 : decode cL_law 481 = .ok (.invokevirtual 68, 3) := by decide +kernel
theorem dL_law_484 : decode cL_law 484 = .ok (.if_icmp .eq 398, 3) := by decide +kernel
theorem dL_law_487 : decode cL_law 487 = .ok (.iconst 0, 1) := by decide +kernel
theorem dL_law_488 : decode cL_law 488 = .ok (.ireturn, 1) := by decide +kernel
theorem dL_law_489 : decode cL_law 489 = .ok (.aload_n 1, 1) := by decide +kernel
theorem dL_law_490 : decode cL_law 490 = .ok (.invokevirtual 69, 3) := by decide +kernel
theorem dL_law_493 : decode cL_law 493 = .ok (.aload_n 2, 1) := by decide +kernel
theorem dL_law_494 : decode cL_law 494 = .ok (.invokevirtual 72, 3) := by decide +kernel
theorem dL_law_497 : decode cL_law 497 = .ok (.if_icmp .eq 385, 3) := by decide +kernel
theorem dL_law_500 : decode cL_law 500 = .ok (.iconst 0, 1) := by decide +kernel
theorem dL_law_501 : decode cL_law 501 = .ok (.ireturn, 1) := by decide +kernel
theorem dL_law_502 : decode cL_law 502 = .ok (.aload_n 1, 1) := by decide +kernel
theorem dL_law_503 : decode cL_law 503 = .ok (.aload_n 0, 1) := by decide +kernel
theorem dL_law_504 : decode cL_law 504 = .ok (.iload_n 3, 1) := by decide +kernel
theorem dL_law_505 : decode cL_law 505 = .ok (.iconst 1, 1) := by decide +kernel
theorem dL_law_506 : decode cL_law 506 = .ok (.iadd, 1) := by decide +kernel
theorem dL_law_507 : decode cL_law 507 = .ok (.iaload, 1) := by decide +kernel
theorem dL_law_508 : decode cL_law 508 = .ok (.invokevirtual 73, 3) := by decide +kernel
theorem dL_law_511 : decode cL_law 511 = .ok (.aload_n 2, 1) := by decide +kernel
theorem dL_law_512 : decode cL_law 512 = .ok (.aload_n 0, 1) := by decide +kernel
theorem dL_law_513 : decode cL_law 513 = .ok (.iload_n 3, 1) := by decide +kernel
theorem dL_law_514 : decode cL_law 514 = .ok (.iconst 1, 1) := by decide +kernel
theorem dL_law_515 : decode cL_law 515 = .ok (.iadd, 1) := by decide +kernel
theorem dL_law_516 : decode cL_law 516 = .ok (.iaload, 1) := by decide +kernel
theorem dL_law_517 : decode cL_law 517 = .ok (.invokevirtual 76, 3) := by decide +kernel
theorem dL_law_520 : decode cL_law 520 = .ok (.if_icmp .eq 362, 3) := by decide +kernel
theorem dL_law_523 : decode cL_law 523 = .ok (.iconst 0, 1) := by decide +kernel
theorem dL_law_524 : decode cL_law 524 = .ok (.ireturn, 1) := by decide +kernel
theorem dL_law_525 : decode cL_law 525 = .ok (.aload_n 1, 1) := by decide +kernel
theorem dL_law_526 : decode cL_law 526 = .ok (.aload_n 0, 1) := by decide +kernel
theorem dL_law_527 : decode cL_law 527 = .ok (.iload_n 3, 1) := by decide +kernel
theorem dL_law_528 : decode cL_law 528 = .ok (.iconst 1, 1) := by decide +kernel
theorem dL_law_529 : decode cL_law 529 = .ok (.iadd, 1) := by decide +kernel
theorem dL_law_530 : decode cL_law 530 = .ok (.iaload, 1) := by decide +kernel
theorem dL_law_531 : decode cL_law 531 = .ok (.aload_n 0, 1) := by decide +kernel
theorem dL_law_532 : decode cL_law 532 = .ok (.iload_n 3, 1) := by decide +kernel
theorem dL_law_533 : decode cL_law 533 = .ok (.iconst 2, 1) := by decide +kernel
theorem dL_law_534 : decode cL_law 534 = .ok (.iadd, 1) := by decide +kernel
theorem dL_law_535 : decode cL_law 535 = .ok (.iaload, 1) := by decide +kernel
theorem dL_law_536 : decode cL_law 536 = .ok (.invokevirtual 77, 3) := by decide +kernel
theorem dL_law_539 : decode cL_law 539 = .ok (.aload_n 2, 1) := by decide +kernel
theorem dL_law_540 : decode cL_law 540 = .ok (.aload_n 0, 1) := by decide +kernel
theorem dL_law_541 : decode cL_law 541 = .ok (.iload_n 3, 1) := by decide +kernel
theorem dL_law_542 : decode cL_law 542 = .ok (.iconst 1, 1) := by decide +kernel
theorem dL_law_543 : decode cL_law 543 = .ok (.iadd, 1) := by decide +kernel
theorem dL_law_544 : decode cL_law 544 = .ok (.iaload, 1) := by decide +kernel
theorem dL_law_545 : decode cL_law 545 = .ok (.aload_n 0, 1) := by decide +kernel
theorem dL_law_546 : decode cL_law 546 = .ok (.iload_n 3, 1) := by decide +kernel
theorem dL_law_547 : decode cL_law 547 = .ok (.iconst 2, 1) := by decide +kernel
theorem dL_law_548 : decode cL_law 548 = .ok (.iadd, 1) := by decide +kernel
theorem dL_law_549 : decode cL_law 549 = .ok (.iaload, 1) := by decide +kernel
theorem dL_law_550 : decode cL_law 550 = .ok (.invokevirtual 80, 3) := by decide +kernel
theorem dL_law_553 : decode cL_law 553 = .ok (.if_icmp .eq 329, 3) := by decide +kernel
theorem dL_law_556 : decode cL_law 556 = .ok (.iconst 0, 1) := by decide +kernel
theorem dL_law_557 : decode cL_law 557 = .ok (.ireturn, 1) := by decide +kernel
theorem dL_law_558 : decode cL_law 558 = .ok (.aload_n 1, 1) := by decide +kernel
theorem dL_law_559 : decode cL_law 559 = .ok (.aload_n 0, 1) := by decide +kernel
theorem dL_law_560 : decode cL_law 560 = .ok (.iload_n 3, 1) := by decide +kernel
theorem dL_law_561 : decode cL_law 561 = .ok (.iconst 1, 1) := by decide +kernel
theorem dL_law_562 : decode cL_law 562 = .ok (.iadd, 1) := by decide +kernel
theorem dL_law_563 : decode cL_law 563 = .ok (.iaload, 1) := by decide +kernel
theorem dL_law_564 : decode cL_law 564 = .ok (.aload_n 0, 1) := by decide +kernel
theorem dL_law_565 : decode cL_law 565 = .ok (.iload_n 3, 1) := by decide +kernel
theorem dL_law_566 : decode cL_law 566 = .ok (.iconst 2, 1) := by decide +kernel
theorem dL_law_567 : decode cL_law 567 = .ok (.iadd, 1) := by decide +kernel
theorem dL_law_568 : decode cL_law 568 = .ok (.iaload, 1) := by decide +kernel
theorem dL_law_569 : decode cL_law 569 = .ok (.invokevirtual 81, 3) := by decide +kernel
theorem dL_law_572 : decode cL_law 572 = .ok (.aload_n 2, 1) := by decide +kernel
theorem dL_law_573 : decode cL_law 573 = .ok (.aload_n 0, 1) := by decide +kernel
theorem dL_law_574 : decode cL_law 574 = .ok (.iload_n 3, 1) := by decide +kernel
theorem dL_law_575 : decode cL_law 575 = .ok (.iconst 1, 1) := by decide +kernel
theorem dL_law_576 : decode cL_law 576 = .ok (.iadd, 1) := by decide +kernel
theorem dL_law_577 : decode cL_law 577 = .ok (.iaload, 1) := by decide +kernel
theorem dL_law_578 : decode cL_law 578 = .ok (.aload_n 0, 1) := by decide +kernel
theorem dL_law_579 : decode cL_law 579 = .ok (.iload_n 3, 1) := by decide +kernel
theorem dL_law_580 : decode cL_law 580 = .ok (.iconst 2, 1) := by decide +kernel
theorem dL_law_581 : decode cL_law 581 = .ok (.iadd, 1) := by decide +kernel
theorem dL_law_582 : decode cL_law 582 = .ok (.iaload, 1) := by decide +kernel
theorem dL_law_583 : decode cL_law 583 = .ok (.invokevirtual 84, 3) := by decide +kernel
theorem dL_law_586 : decode cL_law 586 = .ok (.if_icmp .eq 296, 3) := by decide +kernel
theorem dL_law_589 : decode cL_law 589 = .ok (.iconst 0, 1) := by decide +kernel
theorem dL_law_590 : decode cL_law 590 = .ok (.ireturn, 1) := by decide +kernel
theorem dL_law_591 : decode cL_law 591 = .ok (.aload_n 1, 1) := by decide +kernel
theorem dL_law_592 : decode cL_law 592 = .ok (.aload_n 0, 1) := by decide +kernel
theorem dL_law_593 : decode cL_law 593 = .ok (.iload_n 3, 1) := by decide +kernel
theorem dL_law_594 : decode cL_law 594 = .ok (.iconst 1, 1) := by decide +kernel
theorem dL_law_595 : decode cL_law 595 = .ok (.iadd, 1) := by decide +kernel
theorem dL_law_596 : decode cL_law 596 = .ok (.iaload, 1) := by decide +kernel
theorem dL_law_597 : decode cL_law 597 = .ok (.aload_n 0, 1) := by decide +kernel
theorem dL_law_598 : decode cL_law 598 = .ok (.iload_n 3, 1) := by decide +kernel
theorem dL_law_599 : decode cL_law 599 = .ok (.iconst 2, 1) := by decide +kernel
theorem dL_law_600 : decode cL_law 600 = .ok (.iadd, 1) := by decide +kernel
theorem dL_law_601 : decode cL_law 601 = .ok (.iaload, 1) := by decide +kernel
theorem dL_law_602 : decode cL_law 602 = .ok (.aload_n 0, 1) := by decide +kernel
theorem dL_law_603 : decode cL_law 603 = .ok (.iload_n 3, 1) := by decide +kernel
theorem dL_law_604 : decode cL_law 604 = .ok (.iconst 3, 1) := by decide +kernel
theorem dL_law_605 : decode cL_law 605 = .ok (.iadd, 1) := by decide +kernel
theorem dL_law_606 : decode cL_law 606 = .ok (.iaload, 1) := by decide +kernel
theorem dL_law_607 : decode cL_law 607 = .ok (.invokevirtual 85, 3) := by decide +kernel
theorem dL_law_610 : decode cL_law 610 = .ok (.aload_n 2, 1) := by decide +kernel
theorem dL_law_611 : decode cL_law 611 = .ok (.aload_n 0, 1) := by decide +kernel
theorem dL_law_612 : decode cL_law 612 = .ok (.iload_n 3, 1) := by decide +kernel
theorem dL_law_613 : decode cL_law 613 = .ok (.iconst 1, 1) := by decide +kernel
theorem dL_law_614 : decode cL_law 614 = .ok (.iadd, 1) := by decide +kernel
theorem dL_law_615 : decode cL_law 615 = .ok (.iaload, 1) := by decide +kernel
theorem dL_law_616 : decode cL_law 616 = .ok (.aload_n 0, 1) := by decide +kernel
theorem dL_law_617 : decode cL_law 617 = .ok (.iload_n 3, 1) := by decide +kernel
theorem dL_law_618 : decode cL_law 618 = .ok (.iconst 2, 1) := by decide +kernel
theorem dL_law_619 : decode cL_law 619 = .ok (.iadd, 1) := by decide +kernel
theorem dL_law_620 : decode cL_law 620 = .ok (.iaload, 1) := by decide +kernel
theorem dL_law_621 : decode cL_law 621 = .ok (.aload_n 0, 1) := by decide +kernel
theorem dL_law_622 : decode cL_law 622 = .ok (.iload_n 3, 1) := by decide +kernel
theorem dL_law_623 : decode cL_law 623 = .ok (.iconst 3, 1) := by decide +kernel
theorem dL_law_624 : decode cL_law 624 = .ok (.iadd, 1) := by decide +kernel
theorem dL_law_625 : decode cL_law 625 = .ok (.iaload, 1) := by decide +kernel
theorem dL_law_626 : decode cL_law 626 = .ok (.invokevirtual 88, 3) := by decide +kernel
theorem dL_law_629 : decode cL_law 629 = .ok (.if_icmp .eq 253, 3) := by decide +kernel
theorem dL_law_632 : decode cL_law 632 = .ok (.iconst 0, 1) := by decide +kernel
theorem dL_law_633 : decode cL_law 633 = .ok (.ireturn, 1) := by decide +kernel
theorem dL_law_634 : decode cL_law 634 = .ok (.aload_n 1, 1) := by decide +kernel
theorem dL_law_635 : decode cL_law 635 = .ok (.aload_n 0, 1) := by decide +kernel
theorem dL_law_636 : decode cL_law 636 = .ok (.iload_n 3, 1) := by decide +kernel
theorem dL_law_637 : decode cL_law 637 = .ok (.iconst 1, 1) := by decide +kernel
theorem dL_law_638 : decode cL_law 638 = .ok (.iadd, 1) := by decide +kernel
theorem dL_law_639 : decode cL_law 639 = .ok (.iaload, 1) := by decide +kernel
theorem dL_law_640 : decode cL_law 640 = .ok (.aload_n 0, 1) := by decide +kernel
theorem dL_law_641 : decode cL_law 641 = .ok (.iload_n 3, 1) := by decide +kernel
theorem dL_law_642 : decode cL_law 642 = .ok (.iconst 2, 1) := by decide +kernel
theorem dL_law_643 : decode cL_law 643 = .ok (.iadd, 1) := by decide +kernel
theorem dL_law_644 : decode cL_law 644 = .ok (.iaload, 1) := by decide +kernel
theorem dL_law_645 : decode cL_law 645 = .ok (.aload_n 0, 1) := by decide +kernel
theorem dL_law_646 : decode cL_law 646 = .ok (.iload_n 3, 1) := by decide +kernel
theorem dL_law_647 : decode cL_law 647 = .ok (.iconst 3, 1) := by decide +kernel
theorem dL_law_648 : decode cL_law 648 = .ok (.iadd, 1) := by decide +kernel
theorem dL_law_649 : decode cL_law 649 = .ok (.iaload, 1) := by decide +kernel
theorem dL_law_650 : decode cL_law 650 = .ok (.invokevirtual 89, 3) := by decide +kernel
theorem dL_law_653 : decode cL_law 653 = .ok (.aload_n 2, 1) := by decide +kernel
theorem dL_law_654 : decode cL_law 654 = .ok (.aload_n 0, 1) := by decide +kernel
theorem dL_law_655 : decode cL_law 655 = .ok (.iload_n 3, 1) := by decide +kernel
theorem dL_law_656 : decode cL_law 656 = .ok (.iconst 1, 1) := by decide +kernel
theorem dL_law_657 : decode cL_law 657 = .ok (.iadd, 1) := by decide +kernel
theorem dL_law_658 : decode cL_law 658 = .ok (.iaload, 1) := by decide +kernel
theorem dL_law_659 : decode cL_law 659 = .ok (.aload_n 0, 1) := by decide +kernel
theorem dL_law_660 : decode cL_law 660 = .ok (.iload_n 3, 1) := by decide +kernel
theorem dL_law_661 : decode cL_law 661 = .ok (.iconst 2, 1) := by decide +kernel
theorem dL_law_662 : decode cL_law 662 = .ok (.iadd, 1) := by decide +kernel
theorem dL_law_663 : decode cL_law 663 = .ok (.iaload, 1) := by decide +kernel
theorem dL_law_664 : decode cL_law 664 = .ok (.aload_n 0, 1) := by decide +kernel
theorem dL_law_665 : decode cL_law 665 = .ok (.iload_n 3, 1) := by decide +kernel
theorem dL_law_666 : decode cL_law 666 = .ok (.iconst 3, 1) := by decide +kernel
theorem dL_law_667 : decode cL_law 667 = .ok (.iadd, 1) := by decide +kernel
theorem dL_law_668 : decode cL_law 668 = .ok (.iaload, 1) := by decide +kernel
theorem dL_law_669 : decode cL_law 669 = .ok (.invokevirtual 92, 3) := by decide +kernel
theorem dL_law_672 : decode cL_law 672 = .ok (.if_icmp .eq 210, 3) := by decide +kernel
theorem dL_law_675 : decode cL_law 675 = .ok (.iconst 0, 1) := by decide +kernel
theorem dL_law_676 : decode cL_law 676 = .ok (.ireturn, 1) := by decide +kernel
theorem dL_law_677 : decode cL_law 677 = .ok (.aload_n 1, 1) := by decide +kernel
theorem dL_law_678 : decode cL_law 678 = .ok (.aload_n 0, 1) := by decide +kernel
theorem dL_law_679 : decode cL_law 679 = .ok (.iload_n 3, 1) := by decide +kernel
theorem dL_law_680 : decode cL_law 680 = .ok (.iconst 1, 1) := by decide +kernel
theorem dL_law_681 : decode cL_law 681 = .ok (.iadd, 1) := by decide +kernel
theorem dL_law_682 : decode cL_law 682 = .ok (.iaload, 1) := by decide +kernel
theorem dL_law_683 : decode cL_law 683 = .ok (.invokevirtual 93, 3) := by decide +kernel
theorem dL_law_686 : decode cL_law 686 = .ok (.aload_n 2, 1) := by decide +kernel
theorem dL_law_687 : decode cL_law 687 = .ok (.aload_n 0, 1) := by decide +kernel
theorem dL_law_688 : decode cL_law 688 = .ok (.iload_n 3, 1) := by decide +kernel
theorem dL_law_689 : decode cL_law 689 = .ok (.iconst 1, 1) := by decide +kernel
theorem dL_law_690 : decode cL_law 690 = .ok (.iadd, 1) := by decide +kernel
theorem dL_law_691 : decode cL_law 691 = .ok (.iaload, 1) := by decide +kernel
theorem dL_law_692 : decode cL_law 692 = .ok (.invokevirtual 96, 3) := by decide +kernel
theorem dL_law_695 : decode cL_law 695 = .ok (.if_icmp .eq 187, 3) := by decide +kernel
theorem dL_law_698 : decode cL_law 698 = .ok (.iconst 0, 1) := by decide +kernel
theorem dL_law_699 : decode cL_law 699 = .ok (.ireturn, 1) := by decide +kernel
theorem dL_law_700 : decode cL_law 700 = .ok (.aload_n 1, 1) := by decide +kernel
theorem dL_law_701 : decode cL_law 701 = .ok (.aload_n 0, 1) := by decide +kernel
theorem dL_law_702 : decode cL_law 702 = .ok (.iload_n 3, 1) := by decide +kernel
theorem dL_law_703 : decode cL_law 703 = .ok (.iconst 1, 1) := by decide +kernel
theorem dL_law_704 : decode cL_law 704 = .ok (.iadd, 1) := by decide +kernel
theorem dL_law_705 : decode cL_law 705 = .ok (.iaload, 1) := by decide +kernel
theorem dL_law_706 : decode cL_law 706 = .ok (.invokevirtual 97, 3) := by decide +kernel
theorem dL_law_709 : decode cL_law 709 = .ok (.aload_n 2, 1) := by decide +kernel
theorem dL_law_710 : decode cL_law 710 = .ok (.aload_n 0, 1) := by decide +kernel
theorem dL_law_711 : decode cL_law 711 = .ok (.iload_n 3, 1) := by decide +kernel
theorem dL_law_712 : decode cL_law 712 = .ok (.iconst 1, 1) := by decide +kernel
theorem dL_law_713 : decode cL_law 713 = .ok (.iadd, 1) := by decide +kernel
theorem dL_law_714 : decode cL_law 714 = .ok (.iaload, 1) := by decide +kernel
theorem dL_law_715 : decode cL_law 715 = .ok (.invokevirtual 100, 3) := by decide +kernel
theorem dL_law_718 : decode cL_law 718 = .ok (.if_icmp .eq 164, 3) := by decide +kernel
theorem dL_law_721 : decode cL_law 721 = .ok (.iconst 0, 1) := by decide +kernel
theorem dL_law_722 : decode cL_law 722 = .ok (.ireturn, 1) := by decide +kernel
theorem dL_law_723 : decode cL_law 723 = .ok (.aload_n 1, 1) := by decide +kernel
theorem dL_law_724 : decode cL_law 724 = .ok (.invokevirtual 101, 3) := by decide +kernel
theorem dL_law_727 : decode cL_law 727 = .ok (.dstore 4, 2) := by decide +kernel
theorem dL_law_729 : decode cL_law 729 = .ok (.aload_n 2, 1) := by decide +kernel
theorem dL_law_730 : decode cL_law 730 = .ok (.invokevirtual 105, 3) := by decide +kernel
theorem dL_law_733 : decode cL_law 733 = .ok (.dstore 6, 2) := by decide +kernel
theorem dL_law_735 : decode cL_law 735 = .ok (.dload 4, 2) := by decide +kernel
theorem dL_law_737 : decode cL_law 737 = .ok (.dload 6, 2) := by decide +kernel
theorem dL_law_739 : decode cL_law 739 = .ok (.dcmp .l, 1) := by decide +kernel
theorem dL_law_740 : decode cL_law 740 = .ok (.ifCond .eq 21, 3) := by decide +kernel
theorem dL_law_743 : decode cL_law 743 = .ok (.dload 4, 2) := by decide +kernel
theorem dL_law_745 : decode cL_law 745 = .ok (.dload 4, 2) := by decide +kernel
theorem dL_law_747 : decode cL_law 747 = .ok (.dcmp .l, 1) := by decide +kernel
theorem dL_law_748 : decode cL_law 748 = .ok (.ifCond .eq 11, 3) := by decide +kernel
theorem dL_law_751 : decode cL_law 751 = .ok (.dload 6, 2) := by decide +kernel
theorem dL_law_753 : decode cL_law 753 = .ok (.dload 6, 2) := by decide +kernel
theorem dL_law_755 : decode cL_law 755 = .ok (.dcmp .l, 1) := by decide +kernel
theorem dL_law_756 : decode cL_law 756 = .ok (.ifCond .ne 5, 3) := by decide +kernel
theorem dL_law_759 : decode cL_law 759 = .ok (.iconst 0, 1) := by decide +kernel
theorem dL_law_760 : decode cL_law 760 = .ok (.ireturn, 1) := by decide +kernel
theorem dL_law_761 : decode cL_law 761 = .ok (.goto 121, 3) := by decide +kernel
theorem dL_law_764 : decode cL_law 764 = .ok (.aload_n 1, 1) := by decide +kernel
theorem dL_law_765 : decode cL_law 765 = .ok (.aload_n 0, 1) := by decide +kernel
theorem dL_law_766 : decode cL_law 766 = .ok (.iload_n 3, 1) := by decide +kernel
theorem dL_law_767 : decode cL_law 767 = .ok (.iconst 1, 1) := by decide +kernel
theorem dL_law_768 : decode cL_law 768 = .ok (.iadd, 1) := by decide +kernel
theorem dL_law_769 : decode cL_law 769 = .ok (.iaload, 1) := by decide +kernel
theorem dL_law_770 : decode cL_law 770 = .ok (.aload_n 0, 1) := by decide +kernel
theorem dL_law_771 : decode cL_law 771 = .ok (.iload_n 3, 1) := by decide +kernel
theorem dL_law_772 : decode cL_law 772 = .ok (.iconst 2, 1) := by decide +kernel
theorem dL_law_773 : decode cL_law 773 = .ok (.iadd, 1) := by decide +kernel
theorem dL_law_774 : decode cL_law 774 = .ok (.iaload, 1) := by decide +kernel
theorem dL_law_775 : decode cL_law 775 = .ok (.invokevirtual 106, 3) := by decide +kernel
theorem dL_law_778 : decode cL_law 778 = .ok (.aload_n 2, 1) := by decide +kernel
theorem dL_law_779 : decode cL_law 779 = .ok (.aload_n 0, 1) := by decide +kernel
theorem dL_law_780 : decode cL_law 780 = .ok (.iload_n 3, 1) := by decide +kernel
theorem dL_law_781 : decode cL_law 781 = .ok (.iconst 1, 1) := by decide +kernel
theorem dL_law_782 : decode cL_law 782 = .ok (.iadd, 1) := by decide +kernel
theorem dL_law_783 : decode cL_law 783 = .ok (.iaload, 1) := by decide +kernel
theorem dL_law_784 : decode cL_law 784 = .ok (.aload_n 0, 1) := by decide +kernel
theorem dL_law_785 : decode cL_law 785 = .ok (.iload_n 3, 1) := by decide +kernel
theorem dL_law_786 : decode cL_law 786 = .ok (.iconst 2, 1) := by decide +kernel
theorem dL_law_787 : decode cL_law 787 = .ok (.iadd, 1) := by decide +kernel
theorem dL_law_788 : decode cL_law 788 = .ok (.iaload, 1) := by decide +kernel
theorem dL_law_789 : decode cL_law 789 = .ok (.invokevirtual 109, 3) := by decide +kernel
theorem dL_law_792 : decode cL_law 792 = .ok (.if_icmp .eq 90, 3) := by decide +kernel
theorem dL_law_795 : decode cL_law 795 = .ok (.iconst 0, 1) := by decide +kernel
theorem dL_law_796 : decode cL_law 796 = .ok (.ireturn, 1) := by decide +kernel
theorem dL_law_797 : decode cL_law 797 = .ok (.aload_n 1, 1) := by decide +kernel
theorem dL_law_798 : decode cL_law 798 = .ok (.invokevirtual 110, 3) := by decide +kernel
theorem dL_law_801 : decode cL_law 801 = .ok (.aload_n 2, 1) := by decide +kernel
theorem dL_law_802 : decode cL_law 802 = .ok (.invokevirtual 113, 3) := by decide +kernel
theorem dL_law_805 : decode cL_law 805 = .ok (.if_icmp .eq 77, 3) := by decide +kernel
theorem dL_law_808 : decode cL_law 808 = .ok (.iconst 0, 1) := by decide +kernel
theorem dL_law_809 : decode cL_law 809 = .ok (.ireturn, 1) := by decide +kernel
theorem dL_law_810 : decode cL_law 810 = .ok (.aload_n 1, 1) := by decide +kernel
theorem dL_law_811 : decode cL_law 811 = .ok (.aload_n 0, 1) := by decide +kernel
theorem dL_law_812 : decode cL_law 812 = .ok (.iload_n 3, 1) := by decide +kernel
theorem dL_law_813 : decode cL_law 813 = .ok (.iconst 1, 1) := by decide +kernel
theorem dL_law_814 : decode cL_law 814 = .ok (.iadd, 1) := by decide +kernel
theorem dL_law_815 : decode cL_law 815 = .ok (.iaload, 1) := by decide +kernel
theorem dL_law_816 : decode cL_law 816 = .ok (.aload_n 0, 1) := by decide +kernel
theorem dL_law_817 : decode cL_law 817 = .ok (.iload_n 3, 1) := by decide +kernel
theorem dL_law_818 : decode cL_law 818 = .ok (.iconst 2, 1) := by decide +kernel
theorem dL_law_819 : decode cL_law 819 = .ok (.iadd, 1) := by decide +kernel
theorem dL_law_820 : decode cL_law 820 = .ok (.iaload, 1) := by decide +kernel
theorem dL_law_821 : decode cL_law 821 = .ok (.invokevirtual 114, 3) := by decide +kernel
theorem dL_law_824 : decode cL_law 824 = .ok (.aload_n 2, 1) := by decide +kernel
theorem dL_law_825 : decode cL_law 825 = .ok (.aload_n 0, 1) := by decide +kernel
theorem dL_law_826 : decode cL_law 826 = .ok (.iload_n 3, 1) := by decide +kernel
theorem dL_law_827 : decode cL_law 827 = .ok (.iconst 1, 1) := by decide +kernel
theorem dL_law_828 : decode cL_law 828 = .ok (.iadd, 1) := by decide +kernel
theorem dL_law_829 : decode cL_law 829 = .ok (.iaload, 1) := by decide +kernel
theorem dL_law_830 : decode cL_law 830 = .ok (.aload_n 0, 1) := by decide +kernel
theorem dL_law_831 : decode cL_law 831 = .ok (.iload_n 3, 1) := by decide +kernel
theorem dL_law_832 : decode cL_law 832 = .ok (.iconst 2, 1) := by decide +kernel
theorem dL_law_833 : decode cL_law 833 = .ok (.iadd, 1) := by decide +kernel
theorem dL_law_834 : decode cL_law 834 = .ok (.iaload, 1) := by decide +kernel
theorem dL_law_835 : decode cL_law 835 = .ok (.invokevirtual 117, 3) := by decide +kernel
theorem dL_law_838 : decode cL_law 838 = .ok (.if_icmp .eq 44, 3) := by decide +kernel
theorem dL_law_841 : decode cL_law 841 = .ok (.iconst 0, 1) := by decide +kernel
theorem dL_law_842 : decode cL_law 842 = .ok (.ireturn, 1) := by decide +kernel
theorem dL_law_843 : decode cL_law 843 = .ok (.aload_n 1, 1) := by decide +kernel
theorem dL_law_844 : decode cL_law 844 = .ok (.invokevirtual 118, 3) := by decide +kernel
theorem dL_law_847 : decode cL_law 847 = .ok (.aload_n 2, 1) := by decide +kernel
theorem dL_law_848 : decode cL_law 848 = .ok (.invokevirtual 121, 3) := by decide +kernel
theorem dL_law_851 : decode cL_law 851 = .ok (.if_icmp .eq 31, 3) := by decide +kernel
theorem dL_law_854 : decode cL_law 854 = .ok (.iconst 0, 1) := by decide +kernel
theorem dL_law_855 : decode cL_law 855 = .ok (.ireturn, 1) := by decide +kernel
theorem dL_law_856 : decode cL_law 856 = .ok (.aload_n 1, 1) := by decide +kernel
theorem dL_law_857 : decode cL_law 857 = .ok (.invokevirtual 122, 3) := by decide +kernel
theorem dL_law_860 : decode cL_law 860 = .ok (.aload_n 2, 1) := by decide +kernel
theorem dL_law_861 : decode cL_law 861 = .ok (.invokevirtual 125, 3) := by decide +kernel
theorem dL_law_864 : decode cL_law 864 = .ok (.if_icmp .eq 18, 3) := by decide +kernel
theorem dL_law_867 : decode cL_law 867 = .ok (.iconst 0, 1) := by decide +kernel
theorem dL_law_868 : decode cL_law 868 = .ok (.ireturn, 1) := by decide +kernel
theorem dL_law_869 : decode cL_law 869 = .ok (.aload_n 1, 1) := by decide +kernel
theorem dL_law_870 : decode cL_law 870 = .ok (.invokevirtual 126, 3) := by decide +kernel
theorem dL_law_873 : decode cL_law 873 = .ok (.aload_n 2, 1) := by decide +kernel
theorem dL_law_874 : decode cL_law 874 = .ok (.invokevirtual 129, 3) := by decide +kernel
theorem dL_law_877 : decode cL_law 877 = .ok (.if_icmp .eq 5, 3) := by decide +kernel
theorem dL_law_880 : decode cL_law 880 = .ok (.iconst 0, 1) := by decide +kernel
theorem dL_law_881 : decode cL_law 881 = .ok (.ireturn, 1) := by decide +kernel
theorem dL_law_882 : decode cL_law 882 = .ok (.iinc 3 4, 3) := by decide +kernel
theorem dL_law_885 : decode cL_law 885 = .ok (.goto (-867), 3) := by decide +kernel
theorem dL_law_888 : decode cL_law 888 = .ok (.iconst 1, 1) := by decide +kernel
theorem dL_law_889 : decode cL_law 889 = .ok (.ireturn, 1) := by decide +kernel
end
section
/-! small worlds: all cells above a base; ints by cell and place; references by cell numbers relative to the base -/
abbrev zK : Type := Nat ⊕ ((Bool × Nat × (Nat → Option Nat)) ⊕ (Nat × List (Option (Option Nat))))
abbrev zG : Type := Nat × va_G × ClassId × ClassId × ClassId
abbrev zM : Type := Nat → Nat → Int32
abbrev zW : Type := Nat × (Nat → zK) × zM
def up2 (m : zM) (a k : Nat) (v : Int32) : zM := fun a' k' => if a' = a ∧ k' = k then v else m a' k'
theorem up2_eq (m : zM) (a k : Nat) (v : Int32) : up2 m a k v a k = v := by simp [up2]
theorem up2_ne (m : zM) {a k a' k' : Nat} (v : Int32) (h : ¬ (a' = a ∧ k' = k)) : up2 m a k v a' k' = m a' k' := by simp [up2, h]
theorem up2_ak (m : zM) (a k k' : Nat) (v : Int32) : up2 m a k v a k' = if k' = k then v else m a k' := by simp [up2]
theorem up2_na (m : zM) {a a' : Nat} (k : Nat) (v : Int32) (h : a' ≠ a) : up2 m a k v a' = m a' := by funext q; simp [up2, h]
def zr (b : Nat) (r : Option Nat) : Value := va_rf (r.map (fun q => b + q))
def flds (b : Nat) (m : Nat → Int32) : Nat → List (Option (Option Nat)) → List Value
  | _, [] => []
  | i, none :: r => .int (m i) :: flds b m (i + 1) r
  | i, some x :: r => zr b x :: flds b m (i + 1) r
theorem flds_int {b : Nat} {m : Nat → Int32} : ∀ (rs : List (Option (Option Nat))) (i k : Nat), rs[k]? = some none → (flds b m i rs)[k]? = some (.int (m (i + k)))
  | [], i, k, h => by simp at h
  | none :: r, i, 0, h => by simp [flds]
  | some x :: r, i, 0, h => by simp at h
  | none :: r, i, k + 1, h => by
    have h2 := flds_int (b := b) (m := m) r (i + 1) k (by simpa using h)
    simp only [flds, List.getElem?_cons_succ, h2]
    rw [show i + 1 + k = i + (k + 1) by omega]
  | some x :: r, i, k + 1, h => by
    have h2 := flds_int (b := b) (m := m) r (i + 1) k (by simpa using h)
    simp only [flds, List.getElem?_cons_succ, h2]
    rw [show i + 1 + k = i + (k + 1) by omega]
theorem flds_ref {b : Nat} {m : Nat → Int32} {x : Option Nat} : ∀ (rs : List (Option (Option Nat))) (i k : Nat), rs[k]? = some (some x) → (flds b m i rs)[k]? = some (zr b x)
  | [], i, k, h => by simp at h
  | none :: r, i, 0, h => by simp at h
  | some y :: r, i, 0, h => by
    simp at h
    subst h
    simp [flds]
  | none :: r, i, k + 1, h => by
    have h2 := flds_ref (b := b) (m := m) (x := x) r (i + 1) k (by simpa using h)
    simp only [flds, List.getElem?_cons_succ, h2]
  | some y :: r, i, k + 1, h => by
    have h2 := flds_ref (b := b) (m := m) (x := x) r (i + 1) k (by simpa using h)
    simp only [flds, List.getElem?_cons_succ, h2]
theorem flds_len {b : Nat} {m : Nat → Int32} : ∀ (rs : List (Option (Option Nat))) (i : Nat), (flds b m i rs).length = rs.length
  | [], i => rfl
  | none :: r, i => by simp [flds, flds_len r]
  | some x :: r, i => by simp [flds, flds_len r]
theorem flds_congr {b : Nat} {m m' : Nat → Int32} : ∀ (rs : List (Option (Option Nat))) (i : Nat), (∀ j, i ≤ j → m j = m' j) → flds b m i rs = flds b m' i rs
  | [], i, h => rfl
  | none :: r, i, h => by
    simp only [flds]
    rw [h i (Nat.le_refl i), flds_congr r (i + 1) (fun j hj => h j (by omega))]
  | some x :: r, i, h => by
    simp only [flds]
    rw [flds_congr r (i + 1) (fun j hj => h j (by omega))]
theorem flds_set {b : Nat} {m : Nat → Int32} {v : Int32} : ∀ (rs : List (Option (Option Nat))) (i k : Nat), rs[k]? = some none → (flds b m i rs).set k (.int v) = flds b (fun j => if j = i + k then v else m j) i rs
  | [], i, k, h => by simp at h
  | none :: r, i, 0, h => by
    simp only [flds, List.set_cons_zero]
    rw [flds_congr (m := m) (m' := fun j => if j = i + 0 then v else m j) r (i + 1) (fun j hj => by rw [if_neg (by omega)])]
    simp
  | some x :: r, i, 0, h => by simp at h
  | none :: r, i, k + 1, h => by
    have h2 := flds_set (b := b) (m := m) (v := v) r (i + 1) k (by simpa using h)
    simp only [flds, List.set_cons_succ]
    rw [h2, if_neg (by omega)]
    rw [show i + 1 + k = i + (k + 1) by omega]
  | some x :: r, i, k + 1, h => by
    have h2 := flds_set (b := b) (m := m) (v := v) r (i + 1) k (by simpa using h)
    simp only [flds, List.set_cons_succ]
    rw [h2]
    rw [show i + 1 + k = i + (k + 1) by omega]
theorem flds_setr {b : Nat} {m : Nat → Int32} {x y : Option Nat} : ∀ (rs : List (Option (Option Nat))) (i k : Nat), rs[k]? = some (some y) → (flds b m i rs).set k (zr b x) = flds b m i (rs.set k (some x))
  | [], i, k, h => by simp at h
  | none :: r, i, 0, h => by simp at h
  | some z :: r, i, 0, h => by simp [flds]
  | none :: r, i, k + 1, h => by
    have h2 := flds_setr (b := b) (m := m) (x := x) (y := y) r (i + 1) k (by simpa using h)
    simp only [flds, List.set_cons_succ, h2]
  | some z :: r, i, k + 1, h => by
    have h2 := flds_setr (b := b) (m := m) (x := x) (y := y) r (i + 1) k (by simpa using h)
    simp only [flds, List.set_cons_succ, h2]
/-- a cell of the world, as the kit has it -/
def zcell (G : zG) (w : zW) (a : Nat) : va_E := match w.2.1 a with
  | .inl n => .inl (G.2.2.1, n, .inl (w.2.2 a))
  | .inr (.inl (y, n, f)) => .inl (if y then G.2.2.2.2 else G.2.2.2.1, n, .inr (.inr (.inr (.inr (fun j => (f j).map (fun q => G.1 + q))))))
  | .inr (.inr (ci, rs)) => .inr (ci, flds G.1 (w.2.2 a) 0 rs)
theorem zcell_i {G : zG} {w : zW} {a n : Nat} (h : w.2.1 a = .inl n) : zcell G w a = .inl (G.2.2.1, n, .inl (w.2.2 a)) := by simp only [zcell, h]
theorem zcell_r {G : zG} {w : zW} {a n : Nat} {y : Bool} {f : Nat → Option Nat} (h : w.2.1 a = .inr (.inl (y, n, f))) : zcell G w a = .inl (if y then G.2.2.2.2 else G.2.2.2.1, n, .inr (.inr (.inr (.inr (fun j => (f j).map (fun q => G.1 + q)))))) := by simp only [zcell, h]
theorem zcell_o {G : zG} {w : zW} {a ci : Nat} {rs : List (Option (Option Nat))} (h : w.2.1 a = .inr (.inr (ci, rs))) : zcell G w a = .inr (ci, flds G.1 (w.2.2 a) 0 rs) := by simp only [zcell, h]
theorem zcell_same {G : zG} {w w' : zW} {a : Nat} (h1 : w'.2.1 a = w.2.1 a) (h2 : w'.2.2 a = w.2.2 a) : zcell G w' a = zcell G w a := by simp only [zcell, h1, h2]
def zws (G : zG) (w : zW) : va_W := (List.range w.1).map (fun a => (G.1 + a, zcell G w a))
theorem zws_at {G : zG} {w : zW} {a : Nat} (h : a < w.1) : (zws G w)[a]? = some (G.1 + a, zcell G w a) := by
  simp [zws, h]
theorem zws_key {G : zG} {w : zW} {k : Nat} {q : Nat × va_E} (h : (zws G w)[k]? = some q) : q.1 = G.1 + k := by
  by_cases hk : k < w.1
  · rw [zws_at hk] at h
    cases h
    rfl
  · have h2 : (zws G w)[k]? = none := List.getElem?_eq_none (by simp [zws]; omega)
    rw [h2] at h
    cases h
theorem zws_D {G : zG} {w : zW} : va_D (fun q => G.1 ≤ q) (zws G w) :=
  ⟨fun i j p q hi hj h => by
    have h1 := zws_key hi
    have h2 := zws_key hj
    omega, fun k q hk => by
    have h1 := zws_key hk
    show G.1 ≤ q.1
    omega⟩
theorem zws_set {G : zG} {w w' : zW} {a : Nat} {e : va_E} (hn : w'.1 = w.1) (he : zcell G w' a = e) (ho : ∀ q, q ≠ a → zcell G w' q = zcell G w q) : (zws G w).set a (G.1 + a, e) = zws G w' := by
  unfold zws
  rw [hn]
  apply List.ext_getElem?
  intro k
  rw [List.getElem?_set]
  by_cases hk : a = k
  · subst hk
    by_cases hl : a < w.1
    · simp [hl, he]
    · simp [hl]
  · rw [if_neg hk]
    by_cases hl : k < w.1
    · simp [hl, ho k (fun q => hk q.symm)]
    · simp [hl]
theorem zws_push {G : zG} {w w' : zW} {e : va_E} (hn : w'.1 = w.1 + 1) (he : zcell G w' w.1 = e) (ho : ∀ q, q < w.1 → zcell G w' q = zcell G w q) : zws G w ++ [(G.1 + w.1, e)] = zws G w' := by
  unfold zws
  rw [hn, List.range_succ, List.map_append]
  congr 1
  · apply List.map_congr_left
    intro a ha
    rw [ho a (List.mem_range.mp ha)]
  · simp [he]
/-- the world is held: every cell from the base on is one of it -/
def zH (G : zG) (w : zW) (U : State) (H : Heap) : Prop := va_P G.2.1 vwCl (zws G w) H ∧ va_K G.2.1 vwCl [(G.2.2.1, .int), (G.2.2.2.1, .object RX1), (G.2.2.2.2, .array .int)] U ∧ H.size = G.1 + w.1
theorem zH.moved {G : zG} {w : zW} {u U : State} {H : Heap} (hvm : u.vm.Alike U.vm) (h : zH G w u H) : zH G w U H := ⟨h.1, va_K.moved hvm h.2.1, h.2.2⟩
/-- the tables' words that a callee may be handed -/
def lw_ok : List Cond := lw_tbl.filter goodWord
theorem lw_in {w : Cond} (i : Nat) (h : lw_tbl[i]? = some w) (hg : goodWord w = true) : w ∈ lw_ok := List.mem_filter.mpr ⟨List.mem_of_getElem? h, hg⟩
/-- words that move with the tables by laws of their own -/
def zX (U : State) : Prop := va_AO RX1 U ∧ (Cond.arrayOver (.array .int)).before #[] U = true ∧ va_Nw (.methodLinkNest RX3 25 yX2_init RX3) U ∧ va_Nw (.methodLinkNest RX3 32 yX0_init RX3) U
theorem zAOi {u U : State} (hvm : u.vm.Alike U.vm) (h : (Cond.arrayOver (.array .int)).before #[] u = true) : (Cond.arrayOver (.array .int)).before #[] U = true := by
  obtain ⟨comp, c, k, h1, h2, h3, h4, h5⟩ := arrayOverA_spec h
  obtain ⟨k', hk', he⟩ := hvm.2.2 _ _ h3
  have hi : (U.vm.classes.findIdx? fun (x : Class) => match x.kind with | .array component _ => component == comp | _ => false) = some c := by
    rw [hvm.findIdx?_eq _ (fun _ => rfl)]
    exact h2
  have hkind : k'.kind = .array comp (.array .int) := by rw [he]; exact h4
  have f1 : U.vm.findClass (FieldType.array .int).toString = some comp := by rw [hvm.findClass]; exact h1
  have f2 : U.vm.findClass ("[" ++ (FieldType.array .int).toString) = some c := by rw [hvm.findClass]; exact h5
  unfold Cond.before Cond.holds
  simp only [Cond.value]
  rw [f1, Option.bind_some]
  refine (congrArg (fun o : Option Nat => (o.bind (fun c => (U.vm.classes[c]?).map fun (k : Class) => match k.kind with | .array _ ty => decide (ty = FieldType.array .int) && decide (U.vm.findClass ("[" ++ (FieldType.array .int).toString) = some c) | _ => false) == some true)) hi).trans ?_
  simp [hk', hkind, f2]
theorem zX.warm {s U : State} (hW : s.WarmedH U.vm) (h : zX s) : zX U := ⟨h.1.moved hW.alike, zAOi hW.alike h.2.1, va_Nw.warmM hW h.2.2.1, va_Nw.warmM hW h.2.2.2⟩
theorem zX.same {u U : State} (hvm : u.vm = U.vm) (h : zX u) : zX U := ⟨h.1.moved (by rw [hvm]; exact Vm.Alike.refl _), zAOi (by rw [hvm]; exact Vm.Alike.refl _) h.2.1, va_Nw.same rfl hvm h.2.2.1, va_Nw.same rfl hvm h.2.2.2⟩
/-- a method: its class, bytes, locals, what it returns, its name, its room -/
abbrev zD : Type := String × ByteArray × Nat × Option FieldType × String × Room
def zC (M : zD) (p : Program) (s : State) (m : MethodId) (args : Array Value) (meth : Method) (c : Code) : Prop :=
  p.tables.exec = Jvm.exec ∧ c.code = M.2.1 ∧ c.maxLocals = M.2.2.1 ∧ s.vm.findClass M.1 = some m.cls ∧ (∀ w ∈ lw_ok, w.before args s = true) ∧ meth.sig.returnType = M.2.2.2.1 ∧ meth.locks = false ∧ (M.2.2.2.2.1 = "" ∨ meth.name = M.2.2.2.2.1) ∧ zX s
def Z (G : zG) (M : zD) (E : State → Prop) (Qf : List Frame → Array Value → State → State → Prop) (l : Launch) (k j : Nat) (w : zW) (pc : Nat) (lv : List (Nat × Value)) (st : List Value) : Prop :=
  ∀ (p : Program) (e : Env) (s : State) (m : MethodId) (args : Array Value) (below : List Frame) (meth : Method) (c : Code) (H : Heap) (locs : List Loc) (ls : Array Slot),
    zC M p s m args meth c → E s → G.1 ≤ s.heap.size → zH G w s H → va_S (fun q => G.1 ≤ q) s.heap H locs → lv_has ls M.2.2.1 lv →
    W p l e M.2.2.2.2.2 s m args below meth c H locs k j (Qf below args s) (F0 m pc ls st)
section ZR
variable {G : zG} {M : zD} {E : State → Prop} {Qf : List Frame → Array Value → State → State → Prop} {l : Launch} {k j : Nat} {w : zW} {pc : Nat} {lv : List (Nat × Value)} {st : List Value}
theorem Z_at {pc' : Nat} (h : pc = pc') (kk : Z G M E Qf l k j w pc' lv st) : Z G M E Qf l k j w pc lv st := h ▸ kk
theorem Z_lv {lv' : List (Nat × Value)} (ks : List Nat) (h : lv_pick lv ks = lv') (kk : Z G M E Qf l k j w pc lv' st) : Z G M E Qf l k j w pc lv st := by
  intro p e s m args below meth c H locs ls hc hE hb hH hS hl
  exact kk p e s m args below meth c H locs ls hc hE hb hH hS (lv_sub hl ks h)
theorem Z_w {w' : zW} (h : w = w') (kk : Z G M E Qf l k j w' pc lv st) : Z G M E Qf l k j w pc lv st := h ▸ kk
theorem Z_wide {k' j' : Nat} (h1 : k ≤ k') (h2 : j ≤ j') (kk : Z G M E Qf l k' j' w pc lv st) : Z G M E Qf l k j w pc lv st := by
  intro p e s m args below meth c H locs ls hc hE hb hH hS hl
  exact W.widen h1 h2 (kk p e s m args below meth c H locs ls hc hE hb hH hS hl)
theorem Z_iconst (pc' : Nat) {n : Int} (v : Int32) (hd : decode M.2.1 pc = .ok (.iconst n, 1)) (hp : pc + 1 = pc') (hv : Int32.ofInt n = v) (kk : Z G M E Qf l k j w pc' lv (.int v :: st)) : Z G M E Qf l k j w pc lv st := by
  subst hp
  intro p e s m args below meth c H locs ls hc hE hb hH hS hl
  exact lv_iconst hc.1 hc.2.1 hd hv (kk p e s m args below meth c H locs ls hc hE hb hH hS hl)
theorem Z_bipush (pc' : Nat) {n : Int} (v : Int32) (hd : decode M.2.1 pc = .ok (.bipush n, 2)) (hp : pc + 2 = pc') (hv : (Int8.ofInt n).toInt32 = v) (kk : Z G M E Qf l k j w pc' lv (.int v :: st)) : Z G M E Qf l k j w pc lv st := by
  subst hp
  intro p e s m args below meth c H locs ls hc hE hb hH hS hl
  exact lv_bipush hc.1 hc.2.1 hd hv (kk p e s m args below meth c H locs ls hc hE hb hH hS hl)
theorem Z_sipush (pc' : Nat) {n : Int} (v : Int32) (hd : decode M.2.1 pc = .ok (.sipush n, 3)) (hp : pc + 3 = pc') (hv : (Int16.ofInt n).toInt32 = v) (kk : Z G M E Qf l k j w pc' lv (.int v :: st)) : Z G M E Qf l k j w pc lv st := by
  subst hp
  intro p e s m args below meth c H locs ls hc hE hb hH hS hl
  exact lv_sipush hc.1 hc.2.1 hd hv (kk p e s m args below meth c H locs ls hc hE hb hH hS hl)
theorem Z_ldc (pc' : Nat) {idx : Nat} (v : Int32) (hd : decode M.2.1 pc = .ok (.ldc idx, 2)) (hp : pc + 2 = pc') (hk : Cond.constant M.1 idx v ∈ lw_ok) (kk : Z G M E Qf l k j w pc' lv (.int v :: st)) : Z G M E Qf l k j w pc lv st := by
  subst hp
  intro p e s m args below meth c H locs ls hc hE hb hH hS hl
  exact lv_ldc hc.1 hc.2.1 hc.2.2.2.1 (hc.2.2.2.2.1 _ hk) hd (kk p e s m args below meth c H locs ls hc hE hb hH hS hl)
theorem Z_iload_n (pc' : Nat) (q : Nat) {i : Fin 4} {x : Int32} (hd : decode M.2.1 pc = .ok (.iload_n i, 1)) (hp : pc + 1 = pc') (hq : lv[q]? = some ((i : Nat), .int x)) (kk : Z G M E Qf l k j w pc' lv (.int x :: st)) : Z G M E Qf l k j w pc lv st := by
  subst hp
  intro p e s m args below meth c H locs ls hc hE hb hH hS hl
  exact lv_iload_n hc.1 hc.2.1 hd rfl (lv_at hl q hq) (kk p e s m args below meth c H locs ls hc hE hb hH hS hl)
theorem Z_iload (pc' : Nat) (q : Nat) {i : Nat} {x : Int32} (hd : decode M.2.1 pc = .ok (.iload i, 2)) (hp : pc + 2 = pc') (hq : lv[q]? = some (i, .int x)) (kk : Z G M E Qf l k j w pc' lv (.int x :: st)) : Z G M E Qf l k j w pc lv st := by
  subst hp
  intro p e s m args below meth c H locs ls hc hE hb hH hS hl
  exact lv_iload hc.1 hc.2.1 hd (lv_at hl q hq) (kk p e s m args below meth c H locs ls hc hE hb hH hS hl)
theorem Z_aload_n (pc' : Nat) (q : Nat) {i : Fin 4} {x : Nat} (hd : decode M.2.1 pc = .ok (.aload_n i, 1)) (hp : pc + 1 = pc') (hq : lv[q]? = some ((i : Nat), .ref x)) (kk : Z G M E Qf l k j w pc' lv (.ref x :: st)) : Z G M E Qf l k j w pc lv st := by
  subst hp
  intro p e s m args below meth c H locs ls hc hE hb hH hS hl
  exact lv_aload_n hc.1 hc.2.1 hd rfl (lv_at hl q hq) (kk p e s m args below meth c H locs ls hc hE hb hH hS hl)
theorem Z_aload (pc' : Nat) (q : Nat) {i : Nat} {x : Nat} (hd : decode M.2.1 pc = .ok (.aload i, 2)) (hp : pc + 2 = pc') (hq : lv[q]? = some (i, .ref x)) (kk : Z G M E Qf l k j w pc' lv (.ref x :: st)) : Z G M E Qf l k j w pc lv st := by
  subst hp
  intro p e s m args below meth c H locs ls hc hE hb hH hS hl
  exact lv_aload hc.1 hc.2.1 hd (lv_at hl q hq) (kk p e s m args below meth c H locs ls hc hE hb hH hS hl)
theorem Z_dload (pc' : Nat) (q : Nat) {i : Nat} {x : UInt64} (hd : decode M.2.1 pc = .ok (.dload i, 2)) (hp : pc + 2 = pc') (hq : lv[q]? = some (i, .double x)) (kk : Z G M E Qf l k j w pc' lv (.double x :: st)) : Z G M E Qf l k j w pc lv st := by
  subst hp
  intro p e s m args below meth c H locs ls hc hE hb hH hS hl
  exact lv_dload hc.1 hc.2.1 hd (lv_at hl q hq) (kk p e s m args below meth c H locs ls hc hE hb hH hS hl)
theorem Z_dload_n (pc' : Nat) (q : Nat) {i : Fin 4} {x : UInt64} (hd : decode M.2.1 pc = .ok (.dload_n i, 1)) (hp : pc + 1 = pc') (hq : lv[q]? = some ((i : Nat), .double x)) (kk : Z G M E Qf l k j w pc' lv (.double x :: st)) : Z G M E Qf l k j w pc lv st := by
  subst hp
  intro p e s m args below meth c H locs ls hc hE hb hH hS hl
  exact lv_dload_n hc.1 hc.2.1 hd rfl (lv_at hl q hq) (kk p e s m args below meth c H locs ls hc hE hb hH hS hl)
theorem Z_istore_n (pc' : Nat) (lv' : List (Nat × Value)) {i : Fin 4} {x : Int32} (hd : decode M.2.1 pc = .ok (.istore_n i, 1)) (hp : pc + 1 = pc') (hn : (i : Nat) < M.2.2.1) (h' : ((i : Nat), Value.int x) :: lv.filter (fun q => !(q.1 == (i : Nat)) && !(q.1 + 1 == (i : Nat) && q.2.category == 2)) = lv') (kk : Z G M E Qf l k j w pc' lv' st) : Z G M E Qf l k j w pc lv (.int x :: st) := by
  subst hp
  intro p e s m args below meth c H locs ls hc hE hb hH hS hl
  exact lv_istore_n hc.1 hc.2.1 hd rfl hl hn h' (fun ls' hl' => kk p e s m args below meth c H locs ls' hc hE hb hH hS hl')
theorem Z_istore (pc' : Nat) (lv' : List (Nat × Value)) {i : Nat} {x : Int32} (hd : decode M.2.1 pc = .ok (.istore i, 2)) (hp : pc + 2 = pc') (hn : i < M.2.2.1) (h' : (i, Value.int x) :: lv.filter (fun q => !(q.1 == i) && !(q.1 + 1 == i && q.2.category == 2)) = lv') (kk : Z G M E Qf l k j w pc' lv' st) : Z G M E Qf l k j w pc lv (.int x :: st) := by
  subst hp
  intro p e s m args below meth c H locs ls hc hE hb hH hS hl
  exact lv_istore hc.1 hc.2.1 hd hl hn h' (fun ls' hl' => kk p e s m args below meth c H locs ls' hc hE hb hH hS hl')
theorem Z_astore_n (pc' : Nat) (lv' : List (Nat × Value)) {i : Fin 4} {x : Nat} (hd : decode M.2.1 pc = .ok (.astore_n i, 1)) (hp : pc + 1 = pc') (hn : (i : Nat) < M.2.2.1) (h' : ((i : Nat), Value.ref x) :: lv.filter (fun q => !(q.1 == (i : Nat)) && !(q.1 + 1 == (i : Nat) && q.2.category == 2)) = lv') (kk : Z G M E Qf l k j w pc' lv' st) : Z G M E Qf l k j w pc lv (.ref x :: st) := by
  subst hp
  intro p e s m args below meth c H locs ls hc hE hb hH hS hl
  exact lv_astore_n hc.1 hc.2.1 hd rfl hl hn h' (fun ls' hl' => kk p e s m args below meth c H locs ls' hc hE hb hH hS hl')
theorem Z_astore (pc' : Nat) (lv' : List (Nat × Value)) {i : Nat} {x : Nat} (hd : decode M.2.1 pc = .ok (.astore i, 2)) (hp : pc + 2 = pc') (hn : i < M.2.2.1) (h' : (i, Value.ref x) :: lv.filter (fun q => !(q.1 == i) && !(q.1 + 1 == i && q.2.category == 2)) = lv') (kk : Z G M E Qf l k j w pc' lv' st) : Z G M E Qf l k j w pc lv (.ref x :: st) := by
  subst hp
  intro p e s m args below meth c H locs ls hc hE hb hH hS hl
  exact lv_astore hc.1 hc.2.1 hd hl hn h' (fun ls' hl' => kk p e s m args below meth c H locs ls' hc hE hb hH hS hl')
theorem Z_dstore (pc' : Nat) (lv' : List (Nat × Value)) {i : Nat} {x : UInt64} (hd : decode M.2.1 pc = .ok (.dstore i, 2)) (hp : pc + 2 = pc') (hn : i + 1 < M.2.2.1) (h' : (i, Value.double x) :: lv.filter (fun q => !(q.1 == i) && (!(q.1 == i + 1) && !(q.1 + 1 == i && q.2.category == 2))) = lv') (kk : Z G M E Qf l k j w pc' lv' st) : Z G M E Qf l k j w pc lv (.double x :: st) := by
  subst hp
  intro p e s m args below meth c H locs ls hc hE hb hH hS hl
  exact lv_dstore hc.1 hc.2.1 hd hl hn h' (fun ls' hl' => kk p e s m args below meth c H locs ls' hc hE hb hH hS hl')
theorem Z_dstore_n (pc' : Nat) (lv' : List (Nat × Value)) {i : Fin 4} {x : UInt64} (hd : decode M.2.1 pc = .ok (.dstore_n i, 1)) (hp : pc + 1 = pc') (hn : (i : Nat) + 1 < M.2.2.1) (h' : ((i : Nat), Value.double x) :: lv.filter (fun q => !(q.1 == (i : Nat)) && (!(q.1 == (i : Nat) + 1) && !(q.1 + 1 == (i : Nat) && q.2.category == 2))) = lv') (kk : Z G M E Qf l k j w pc' lv' st) : Z G M E Qf l k j w pc lv (.double x :: st) := by
  subst hp
  intro p e s m args below meth c H locs ls hc hE hb hH hS hl
  exact lv_dstore_n hc.1 hc.2.1 hd rfl hl hn h' (fun ls' hl' => kk p e s m args below meth c H locs ls' hc hE hb hH hS hl')
theorem Z_iinc (pc' : Nat) (lv' : List (Nat × Value)) (q : Nat) (v : Int32) {i : Nat} {n : Int} {x : Int32} (hd : decode M.2.1 pc = .ok (.iinc i n, 3)) (hp : pc + 3 = pc') (hn : i < M.2.2.1) (hq : lv[q]? = some (i, .int x)) (hv : x + Int32.ofInt n = v) (h' : (i, Value.int v) :: lv.filter (fun q => !(q.1 == i) && !(q.1 + 1 == i && q.2.category == 2)) = lv') (kk : Z G M E Qf l k j w pc' lv' st) : Z G M E Qf l k j w pc lv st := by
  subst hp
  intro p e s m args below meth c H locs ls hc hE hb hH hS hl
  exact lv_iinc hc.1 hc.2.1 hd hl hq hv hn h' (fun ls' hl' => kk p e s m args below meth c H locs ls' hc hE hb hH hS hl')
theorem Z_iadd (pc' : Nat) {x y : Int32} (hd : decode M.2.1 pc = .ok (.iadd, 1)) (hp : pc + 1 = pc') (kk : Z G M E Qf l k j w pc' lv (.int (x + y) :: st)) : Z G M E Qf l k j w pc lv (.int y :: .int x :: st) := by
  subst hp
  intro p e s m args below meth c H locs ls hc hE hb hH hS hl
  exact lv_iadd hc.1 hc.2.1 hd (kk p e s m args below meth c H locs ls hc hE hb hH hS hl)
theorem Z_isub (pc' : Nat) {x y : Int32} (hd : decode M.2.1 pc = .ok (.isub, 1)) (hp : pc + 1 = pc') (kk : Z G M E Qf l k j w pc' lv (.int (x - y) :: st)) : Z G M E Qf l k j w pc lv (.int y :: .int x :: st) := by
  subst hp
  intro p e s m args below meth c H locs ls hc hE hb hH hS hl
  exact lv_isub hc.1 hc.2.1 hd (kk p e s m args below meth c H locs ls hc hE hb hH hS hl)
theorem Z_imul (pc' : Nat) {x y : Int32} (hd : decode M.2.1 pc = .ok (.imul, 1)) (hp : pc + 1 = pc') (kk : Z G M E Qf l k j w pc' lv (.int (x * y) :: st)) : Z G M E Qf l k j w pc lv (.int y :: .int x :: st) := by
  subst hp
  intro p e s m args below meth c H locs ls hc hE hb hH hS hl
  exact lv_imul hc.1 hc.2.1 hd (kk p e s m args below meth c H locs ls hc hE hb hH hS hl)
theorem Z_iand (pc' : Nat) {x y : Int32} (hd : decode M.2.1 pc = .ok (.iand, 1)) (hp : pc + 1 = pc') (kk : Z G M E Qf l k j w pc' lv (.int (x &&& y) :: st)) : Z G M E Qf l k j w pc lv (.int y :: .int x :: st) := by
  subst hp
  intro p e s m args below meth c H locs ls hc hE hb hH hS hl
  exact lv_iand hc.1 hc.2.1 hd (kk p e s m args below meth c H locs ls hc hE hb hH hS hl)
theorem Z_idiv (pc' : Nat) {x y : Int32} (hd : decode M.2.1 pc = .ok (.idiv, 1)) (hp : pc + 1 = pc') (hne : ¬ y = 0) (kk : Z G M E Qf l k j w pc' lv (.int (x / y) :: st)) : Z G M E Qf l k j w pc lv (.int y :: .int x :: st) := by
  subst hp
  intro p e s m args below meth c H locs ls hc hE hb hH hS hl
  exact lv_idiv hc.1 hc.2.1 hd hne (kk p e s m args below meth c H locs ls hc hE hb hH hS hl)
theorem Z_ineg (pc' : Nat) {x : Int32} (hd : decode M.2.1 pc = .ok (.ineg, 1)) (hp : pc + 1 = pc') (kk : Z G M E Qf l k j w pc' lv (.int (-x) :: st)) : Z G M E Qf l k j w pc lv (.int x :: st) := by
  subst hp
  intro p e s m args below meth c H locs ls hc hE hb hH hS hl
  exact lv_ineg hc.1 hc.2.1 hd (kk p e s m args below meth c H locs ls hc hE hb hH hS hl)
theorem Z_dup (pc' : Nat) {v : Value} (hd : decode M.2.1 pc = .ok (.dup, 1)) (hp : pc + 1 = pc') (hv : v.category = 1) (kk : Z G M E Qf l k j w pc' lv (v :: v :: st)) : Z G M E Qf l k j w pc lv (v :: st) := by
  subst hp
  intro p e s m args below meth c H locs ls hc hE hb hH hS hl
  exact lv_dup hc.1 hc.2.1 hd hv (kk p e s m args below meth c H locs ls hc hE hb hH hS hl)
theorem Z_dup2 (pc' : Nat) {v u : Value} (hd : decode M.2.1 pc = .ok (.dup2, 1)) (hp : pc + 1 = pc') (hv : v.category = 1) (hu : u.category = 1) (kk : Z G M E Qf l k j w pc' lv (v :: u :: v :: u :: st)) : Z G M E Qf l k j w pc lv (v :: u :: st) := by
  subst hp
  intro p e s m args below meth c H locs ls hc hE hb hH hS hl
  exact lv_dup2_11 hc.1 hc.2.1 hd hv hu (kk p e s m args below meth c H locs ls hc hE hb hH hS hl)
theorem Z_i2d (pc' : Nat) {x : Int32} (hd : decode M.2.1 pc = .ok (.i2d, 1)) (hp : pc + 1 = pc') (kk : Z G M E Qf l k j w pc' lv (.double (FP.i2d x) :: st)) : Z G M E Qf l k j w pc lv (.int x :: st) := by
  subst hp
  intro p e s m args below meth c H locs ls hc hE hb hH hS hl
  exact lv_i2d hc.1 hc.2.1 hd (kk p e s m args below meth c H locs ls hc hE hb hH hS hl)
theorem Z_ddiv (pc' : Nat) {x y : UInt64} (hd : decode M.2.1 pc = .ok (.ddiv, 1)) (hp : pc + 1 = pc') (hne : vf_n64 (FP.ddiv x y)) (kk : Z G M E Qf l k j w pc' lv (.double (FP.ddiv x y) :: st)) : Z G M E Qf l k j w pc lv (.double y :: .double x :: st) := by
  subst hp
  intro p e s m args below meth c H locs ls hc hE hb hH hS hl
  exact lv_ddiv hc.1 hc.2.1 hd hne (kk p e s m args below meth c H locs ls hc hE hb hH hS hl)
theorem Z_dcmp (pc' : Nat) {x y : UInt64} {op : CmpOp} (hd : decode M.2.1 pc = .ok (.dcmp op, 1)) (hp : pc + 1 = pc') (kk : Z G M E Qf l k j w pc' lv (.int (Op.cmpValue (FP.dcmp x y) op) :: st)) : Z G M E Qf l k j w pc lv (.double y :: .double x :: st) := by
  subst hp
  intro p e s m args below meth c H locs ls hc hE hb hH hS hl
  exact lv_dcmp hc.1 hc.2.1 hd (kk p e s m args below meth c H locs ls hc hE hb hH hS hl)
theorem Z_dconst0 (pc' : Nat)  (hd : decode M.2.1 pc = .ok (.dconst 0, 1)) (hp : pc + 1 = pc') (kk : Z G M E Qf l k j w pc' lv (.double FP.dconst0 :: st)) : Z G M E Qf l k j w pc lv st := by
  subst hp
  intro p e s m args below meth c H locs ls hc hE hb hH hS hl
  exact lv_dconst0 hc.1 hc.2.1 hd (kk p e s m args below meth c H locs ls hc hE hb hH hS hl)
theorem Z_dconst1 (pc' : Nat)  (hd : decode M.2.1 pc = .ok (.dconst 1, 1)) (hp : pc + 1 = pc') (kk : Z G M E Qf l k j w pc' lv (.double FP.dconst1 :: st)) : Z G M E Qf l k j w pc lv st := by
  subst hp
  intro p e s m args below meth c H locs ls hc hE hb hH hS hl
  exact lv_dconst1 hc.1 hc.2.1 hd (kk p e s m args below meth c H locs ls hc hE hb hH hS hl)
theorem Z_if_eq (pc' tgt : Nat) {x : Int32} {off : Int} (hd : decode M.2.1 pc = .ok (.ifCond .eq off, 3)) (hp : pc + 3 = pc') (ht : (pc : Int) + off = (tgt : Int)) (kt : x = 0 → Z G M E Qf l k j w tgt lv st) (kf : ¬ (x = 0) → Z G M E Qf l k j w pc' lv st) : Z G M E Qf l k j w pc lv (.int x :: st) := by
  subst hp
  intro p e s m args below meth c H locs ls hc hE hb hH hS hl
  exact lv_if_eq hc.1 hc.2.1 hd ht (fun h => kt h p e s m args below meth c H locs ls hc hE hb hH hS hl) (fun h => kf (by simpa using h) p e s m args below meth c H locs ls hc hE hb hH hS hl)
theorem Z_if_ne (pc' tgt : Nat) {x : Int32} {off : Int} (hd : decode M.2.1 pc = .ok (.ifCond .ne off, 3)) (hp : pc + 3 = pc') (ht : (pc : Int) + off = (tgt : Int)) (kt : ¬ x = 0 → Z G M E Qf l k j w tgt lv st) (kf : ¬ (¬ x = 0) → Z G M E Qf l k j w pc' lv st) : Z G M E Qf l k j w pc lv (.int x :: st) := by
  subst hp
  intro p e s m args below meth c H locs ls hc hE hb hH hS hl
  exact lv_if_ne hc.1 hc.2.1 hd ht (fun h => kt h p e s m args below meth c H locs ls hc hE hb hH hS hl) (fun h => kf (by simpa using h) p e s m args below meth c H locs ls hc hE hb hH hS hl)
theorem Z_if_lt (pc' tgt : Nat) {x : Int32} {off : Int} (hd : decode M.2.1 pc = .ok (.ifCond .lt off, 3)) (hp : pc + 3 = pc') (ht : (pc : Int) + off = (tgt : Int)) (kt : x < 0 → Z G M E Qf l k j w tgt lv st) (kf : ¬ (x < 0) → Z G M E Qf l k j w pc' lv st) : Z G M E Qf l k j w pc lv (.int x :: st) := by
  subst hp
  intro p e s m args below meth c H locs ls hc hE hb hH hS hl
  exact lv_if_lt hc.1 hc.2.1 hd ht (fun h => kt h p e s m args below meth c H locs ls hc hE hb hH hS hl) (fun h => kf (by simpa using h) p e s m args below meth c H locs ls hc hE hb hH hS hl)
theorem Z_if_ge (pc' tgt : Nat) {x : Int32} {off : Int} (hd : decode M.2.1 pc = .ok (.ifCond .ge off, 3)) (hp : pc + 3 = pc') (ht : (pc : Int) + off = (tgt : Int)) (kt : 0 ≤ x → Z G M E Qf l k j w tgt lv st) (kf : ¬ (0 ≤ x) → Z G M E Qf l k j w pc' lv st) : Z G M E Qf l k j w pc lv (.int x :: st) := by
  subst hp
  intro p e s m args below meth c H locs ls hc hE hb hH hS hl
  exact lv_if_ge hc.1 hc.2.1 hd ht (fun h => kt h p e s m args below meth c H locs ls hc hE hb hH hS hl) (fun h => kf (by simpa using h) p e s m args below meth c H locs ls hc hE hb hH hS hl)
theorem Z_if_gt (pc' tgt : Nat) {x : Int32} {off : Int} (hd : decode M.2.1 pc = .ok (.ifCond .gt off, 3)) (hp : pc + 3 = pc') (ht : (pc : Int) + off = (tgt : Int)) (kt : 0 < x → Z G M E Qf l k j w tgt lv st) (kf : ¬ (0 < x) → Z G M E Qf l k j w pc' lv st) : Z G M E Qf l k j w pc lv (.int x :: st) := by
  subst hp
  intro p e s m args below meth c H locs ls hc hE hb hH hS hl
  exact lv_if_gt hc.1 hc.2.1 hd ht (fun h => kt h p e s m args below meth c H locs ls hc hE hb hH hS hl) (fun h => kf (by simpa using h) p e s m args below meth c H locs ls hc hE hb hH hS hl)
theorem Z_if_le (pc' tgt : Nat) {x : Int32} {off : Int} (hd : decode M.2.1 pc = .ok (.ifCond .le off, 3)) (hp : pc + 3 = pc') (ht : (pc : Int) + off = (tgt : Int)) (kt : x ≤ 0 → Z G M E Qf l k j w tgt lv st) (kf : ¬ (x ≤ 0) → Z G M E Qf l k j w pc' lv st) : Z G M E Qf l k j w pc lv (.int x :: st) := by
  subst hp
  intro p e s m args below meth c H locs ls hc hE hb hH hS hl
  exact lv_if_le hc.1 hc.2.1 hd ht (fun h => kt h p e s m args below meth c H locs ls hc hE hb hH hS hl) (fun h => kf (by simpa using h) p e s m args below meth c H locs ls hc hE hb hH hS hl)
theorem Z_icmp_eq (pc' tgt : Nat) {x y : Int32} {off : Int} (hd : decode M.2.1 pc = .ok (.if_icmp .eq off, 3)) (hp : pc + 3 = pc') (ht : (pc : Int) + off = (tgt : Int)) (kt : x = y → Z G M E Qf l k j w tgt lv st) (kf : ¬ (x = y) → Z G M E Qf l k j w pc' lv st) : Z G M E Qf l k j w pc lv (.int y :: .int x :: st) := by
  subst hp
  intro p e s m args below meth c H locs ls hc hE hb hH hS hl
  exact lv_icmp_eq hc.1 hc.2.1 hd ht (fun h => kt h p e s m args below meth c H locs ls hc hE hb hH hS hl) (fun h => kf (by simpa using h) p e s m args below meth c H locs ls hc hE hb hH hS hl)
theorem Z_icmp_ne (pc' tgt : Nat) {x y : Int32} {off : Int} (hd : decode M.2.1 pc = .ok (.if_icmp .ne off, 3)) (hp : pc + 3 = pc') (ht : (pc : Int) + off = (tgt : Int)) (kt : ¬ x = y → Z G M E Qf l k j w tgt lv st) (kf : ¬ (¬ x = y) → Z G M E Qf l k j w pc' lv st) : Z G M E Qf l k j w pc lv (.int y :: .int x :: st) := by
  subst hp
  intro p e s m args below meth c H locs ls hc hE hb hH hS hl
  exact lv_icmp_ne hc.1 hc.2.1 hd ht (fun h => kt h p e s m args below meth c H locs ls hc hE hb hH hS hl) (fun h => kf (by simpa using h) p e s m args below meth c H locs ls hc hE hb hH hS hl)
theorem Z_icmp_lt (pc' tgt : Nat) {x y : Int32} {off : Int} (hd : decode M.2.1 pc = .ok (.if_icmp .lt off, 3)) (hp : pc + 3 = pc') (ht : (pc : Int) + off = (tgt : Int)) (kt : x < y → Z G M E Qf l k j w tgt lv st) (kf : ¬ (x < y) → Z G M E Qf l k j w pc' lv st) : Z G M E Qf l k j w pc lv (.int y :: .int x :: st) := by
  subst hp
  intro p e s m args below meth c H locs ls hc hE hb hH hS hl
  exact lv_icmp_lt hc.1 hc.2.1 hd ht (fun h => kt h p e s m args below meth c H locs ls hc hE hb hH hS hl) (fun h => kf (by simpa using h) p e s m args below meth c H locs ls hc hE hb hH hS hl)
theorem Z_icmp_ge (pc' tgt : Nat) {x y : Int32} {off : Int} (hd : decode M.2.1 pc = .ok (.if_icmp .ge off, 3)) (hp : pc + 3 = pc') (ht : (pc : Int) + off = (tgt : Int)) (kt : y ≤ x → Z G M E Qf l k j w tgt lv st) (kf : ¬ (y ≤ x) → Z G M E Qf l k j w pc' lv st) : Z G M E Qf l k j w pc lv (.int y :: .int x :: st) := by
  subst hp
  intro p e s m args below meth c H locs ls hc hE hb hH hS hl
  exact lv_icmp_ge hc.1 hc.2.1 hd ht (fun h => kt h p e s m args below meth c H locs ls hc hE hb hH hS hl) (fun h => kf (by simpa using h) p e s m args below meth c H locs ls hc hE hb hH hS hl)
theorem Z_icmp_gt (pc' tgt : Nat) {x y : Int32} {off : Int} (hd : decode M.2.1 pc = .ok (.if_icmp .gt off, 3)) (hp : pc + 3 = pc') (ht : (pc : Int) + off = (tgt : Int)) (kt : y < x → Z G M E Qf l k j w tgt lv st) (kf : ¬ (y < x) → Z G M E Qf l k j w pc' lv st) : Z G M E Qf l k j w pc lv (.int y :: .int x :: st) := by
  subst hp
  intro p e s m args below meth c H locs ls hc hE hb hH hS hl
  exact lv_icmp_gt hc.1 hc.2.1 hd ht (fun h => kt h p e s m args below meth c H locs ls hc hE hb hH hS hl) (fun h => kf (by simpa using h) p e s m args below meth c H locs ls hc hE hb hH hS hl)
theorem Z_icmp_le (pc' tgt : Nat) {x y : Int32} {off : Int} (hd : decode M.2.1 pc = .ok (.if_icmp .le off, 3)) (hp : pc + 3 = pc') (ht : (pc : Int) + off = (tgt : Int)) (kt : x ≤ y → Z G M E Qf l k j w tgt lv st) (kf : ¬ (x ≤ y) → Z G M E Qf l k j w pc' lv st) : Z G M E Qf l k j w pc lv (.int y :: .int x :: st) := by
  subst hp
  intro p e s m args below meth c H locs ls hc hE hb hH hS hl
  exact lv_icmp_le hc.1 hc.2.1 hd ht (fun h => kt h p e s m args below meth c H locs ls hc hE hb hH hS hl) (fun h => kf (by simpa using h) p e s m args below meth c H locs ls hc hE hb hH hS hl)
theorem Z_goto (tgt : Nat) {off : Int} (hd : decode M.2.1 pc = .ok (.goto off, 3)) (ht : (pc : Int) + off = (tgt : Int)) (kk : Z G M E Qf l k j w tgt lv st) : Z G M E Qf l k j w pc lv st := by
  intro p e s m args below meth c H locs ls hc hE hb hH hS hl
  exact lv_goto hc.1 hc.2.1 hd ht (kk p e s m args below meth c H locs ls hc hE hb hH hS hl)
theorem Z_tabIn (tgt : Nat) {dflt lo hi : Int} {offs : Array Int} {len : Nat} {x : Int32} {off : Int} (hd : decode M.2.1 pc = .ok (.tableswitch dflt lo hi offs, len)) (h1 : ¬ x.toInt < lo) (h2 : ¬ hi < x.toInt) (ho : offs[(x.toInt - lo).toNat]? = some off) (ht : (pc : Int) + off = (tgt : Int)) (kk : Z G M E Qf l k j w tgt lv st) : Z G M E Qf l k j w pc lv (.int x :: st) := by
  intro p e s m args below meth c H locs ls hc hE hb hH hS hl
  exact lv_tableIn hc.1 hc.2.1 hd h1 h2 ho ht (kk p e s m args below meth c H locs ls hc hE hb hH hS hl)
theorem Z_tabOut (tgt : Nat) {dflt lo hi : Int} {offs : Array Int} {len : Nat} {x : Int32} (hd : decode M.2.1 pc = .ok (.tableswitch dflt lo hi offs, len)) (h : x.toInt < lo ∨ hi < x.toInt) (ht : (pc : Int) + dflt = (tgt : Int)) (kk : Z G M E Qf l k j w tgt lv st) : Z G M E Qf l k j w pc lv (.int x :: st) := by
  intro p e s m args below meth c H locs ls hc hE hb hH hS hl
  exact lv_tableOut hc.1 hc.2.1 hd h ht (kk p e s m args below meth c H locs ls hc hE hb hH hS hl)
theorem Z_look (tgt : Nat) {dflt : Int} {ps : Array (Int × Int)} {len : Nat} {x : Int32} {off : Int} (hd : decode M.2.1 pc = .ok (.lookupswitch dflt ps, len)) (hs : (ps.toList.zip (ps.toList.drop 1)).all (fun (a, next) => a.1 < next.1) = true) (ho : Op.lookupswitch.offset ps.toList dflt x.toInt = off) (ht : (pc : Int) + off = (tgt : Int)) (kk : Z G M E Qf l k j w tgt lv st) : Z G M E Qf l k j w pc lv (.int x :: st) := by
  intro p e s m args below meth c H locs ls hc hE hb hH hS hl
  exact lv_lookup hc.1 hc.2.1 hd hs ho ht (kk p e s m args below meth c H locs ls hc hE hb hH hS hl)
/-- what a pool entry of a class names: the field k of the class at place ci -/
def zF (own : String) (idx ci k : Nat) : Prop := ∃ (C : String) (T : u_T) (N : Nat) (ty : Nat → FieldType), vwCl[ci]? = some (C, T, N) ∧ k < N ∧ Cond.fieldLink own idx (T k).1 (T k).2.1 (T k).2.2.1 ∈ lw_ok ∧ (∀ w ∈ u_ws C T N, w ∈ lw_ok) ∧ (∀ q, q < N → parseFieldDescriptor (T q).2.2.1 = some (ty q)) ∧ (∀ a, a < N → ∀ b, b < N → a ≠ b → (T a).2.1 ≠ (T b).2.1)
def zFt (ci k : Nat) (f : (String × String × String × Bool) → Prop) : Prop := ∀ r : vw_C, vwCl[ci]? = some r → f (r.2.1 k)
theorem Z_getI (pc' : Nat) {n9 : Nat} {sh : Nat → zK} {mm : zM} {idx ci q a : Nat} {rs : List (Option (Option Nat))} (hd : decode M.2.1 pc = .ok (.getfield idx, 3)) (hp : pc + 3 = pc') (hf : zF M.1 idx ci q) (ha : a < n9) (hs : sh a = .inr (.inr (ci, rs))) (hr : rs[q]? = some none) (kk : Z G M E Qf l k j (n9, sh, mm) pc' lv (.int (mm a q) :: st)) : Z G M E Qf l k j (n9, sh, mm) pc lv (.ref (G.1 + a) :: st) := by
  subst hp
  intro p e s m args below meth c H locs ls hc hE hb hH hS hl
  obtain ⟨C, T, N, ty, f1, f2, f3, f4, f5, f6⟩ := hf
  exact va_get hc.1 hc.2.1 hc.2.2.2.2.1 f4 hc.2.2.2.1 hH.2.1 hH.1 a (by rw [zws_at (w := (n9, sh, mm)) ha, zcell_o (w := (n9, sh, mm)) hs]) f1 q f2 (hc.2.2.2.2.1 _ f3) (fun _ h => h) (by rw [flds_int rs 0 q hr, Nat.zero_add]) hd (kk p e s m args below meth c H locs ls hc hE hb hH hS hl)
theorem Z_getR (pc' : Nat) {n9 : Nat} {sh : Nat → zK} {mm : zM} {idx ci q a : Nat} {r : Nat} {rs : List (Option (Option Nat))} (hd : decode M.2.1 pc = .ok (.getfield idx, 3)) (hp : pc + 3 = pc') (hf : zF M.1 idx ci q) (ha : a < n9) (hs : sh a = .inr (.inr (ci, rs))) (hr : rs[q]? = some (some (some r))) (kk : Z G M E Qf l k j (n9, sh, mm) pc' lv (.ref (G.1 + r) :: st)) : Z G M E Qf l k j (n9, sh, mm) pc lv (.ref (G.1 + a) :: st) := by
  subst hp
  intro p e s m args below meth c H locs ls hc hE hb hH hS hl
  obtain ⟨C, T, N, ty, f1, f2, f3, f4, f5, f6⟩ := hf
  exact va_get hc.1 hc.2.1 hc.2.2.2.2.1 f4 hc.2.2.2.1 hH.2.1 hH.1 a (by rw [zws_at (w := (n9, sh, mm)) ha, zcell_o (w := (n9, sh, mm)) hs]) f1 q f2 (hc.2.2.2.2.1 _ f3) (fun _ h => h) (flds_ref rs 0 q hr) hd (kk p e s m args below meth c H locs ls hc hE hb hH hS hl)
theorem Z_putI (pc' : Nat) {n9 : Nat} {sh : Nat → zK} {mm : zM} (ft : FieldType) {idx ci q a : Nat} {v : Int32} {rs : List (Option (Option Nat))} (hd : decode M.2.1 pc = .ok (.putfield idx, 3)) (hp : pc + 3 = pc') (hf : zF M.1 idx ci q) (hft : zFt ci q (fun f => f.2.2.2 = false ∧ parseFieldDescriptor f.2.2.1 = some ft)) (ha : a < n9) (hs : sh a = .inr (.inr (ci, rs))) (hr : rs[q]? = some none) (hn : narrow ft (.int v) = .int v) (hfit : fits ft (.int v) = true) (kk : Z G M E Qf l k j (n9, sh, up2 mm a q v) pc' lv st) : Z G M E Qf l k j (n9, sh, mm) pc lv (.int v :: .ref (G.1 + a) :: st) := by
  subst hp
  intro p e s m args below meth c H locs ls hc hE hb hH hS hl
  obtain ⟨C, T, N, ty, f1, f2, f3, f4, f5, f6⟩ := hf
  have g := hft _ f1
  have hts := hc.2.2.2.2.1
  have he : (zws G (n9, sh, mm))[a]? = some (G.1 + a, .inr (ci, flds G.1 (mm a) 0 rs)) := by rw [zws_at (w := (n9, sh, mm)) ha, zcell_o (w := (n9, sh, mm)) hs]
  have hap := va_apart (own := M.1) hts f4 ty f5 f6 hH.2.1 f1
  obtain ⟨r9, h1, cell, q1, q2, q3, q4⟩ := hH.1 a _ he
  have hr9 : r9 = (C, T, N) := Option.some.inj (h1.symm.trans f1)
  subst hr9
  obtain ⟨hSl, hfc, kC, hkC, hkind⟩ := hH.2.1.1 ci _ f1
  obtain ⟨cf, kf, fi, f, hi, hsl⟩ := hSl q f2
  have hlay := hts _ (f4 _ (u_in_lay f2))
  unfold u_lay at hlay
  rw [if_neg (by rw [g.1]; decide)] at hlay
  have hst := (u_facts hfc hkC (u_lays hts f4 f2) hi).1
  have h6 := u_store hfc hkC hkind hlay hi g.2 hn hfit
  refine W.putK hc.1 hc.2.1 (f := f) ⟨hc.2.2.2.1, hts _ f3, ⟨_, _, _, hi⟩, hst⟩ (by rw [q2]; exact h6) q1 q3 (by rw [hsl]; exact k2_hasslot (q4 q f2)) rfl rfl hd fun H' e1 e2 e3 => ?_
  rw [hsl] at e1 ⊢
  have hlt : q < (flds G.1 (mm a) 0 rs).length := by rw [flds_len]; exact (List.getElem?_eq_some_iff.mp hr).1
  have hP1 : va_P G.2.1 vwCl ((zws G (n9, sh, mm)).set a (G.1 + a, .inr (ci, (flds G.1 (mm a) 0 rs).set q (.int v)))) H' := hH.1.set zws_D he ⟨_, f1, t_OB.to (V := updV (vp_V (flds G.1 (mm a) 0 rs)) q (.int v)) ⟨_, e1, q2, q3, t_set q4 hap f2 _⟩ (fun j _ => vp_updV_set hlt _ j)⟩ e3
  refine kk p e s m args below meth c H' _ ls hc hE hb ⟨?_, hH.2.1, e2.trans hH.2.2⟩ (hS.put e2 e3 (Nat.le_add_right _ _)) hl
  rw [flds_set rs 0 q hr] at hP1
  rw [zws_set (G := G) (w := (n9, sh, mm)) (w' := (n9, sh, up2 mm a q v)) rfl ((zcell_o (w := (n9, sh, up2 mm a q v)) hs).trans ?_) ?_] at hP1
  · exact hP1
  · congr 2
    congr 1
    funext z
    simp [up2]
  · intro q9 hq9
    exact zcell_same rfl (up2_na _ _ _ hq9)
theorem Z_putR (pc' : Nat) {n9 : Nat} {sh : Nat → zK} {mm : zM} (ft : FieldType) {idx ci q a r : Nat} {y : Option Nat} {rs : List (Option (Option Nat))} (hd : decode M.2.1 pc = .ok (.putfield idx, 3)) (hp : pc + 3 = pc') (hf : zF M.1 idx ci q) (hft : zFt ci q (fun f => f.1 = M.1 ∧ f.2.2.2 = true ∧ parseFieldDescriptor f.2.2.1 = some ft)) (hin : M.2.2.2.2.1 = "<init>") (ha : a < n9) (hs : sh a = .inr (.inr (ci, rs))) (hr : rs[q]? = some (some y)) (hn : ∀ z, narrow ft (.ref z) = .ref z) (hfit : ∀ z, fits ft (.ref z) = true) (kk : Z G M E Qf l k j (n9, (fun a9 => if a9 = a then .inr (.inr (ci, rs.set q (some (some r)))) else sh a9), mm) pc' lv st) : Z G M E Qf l k j (n9, sh, mm) pc lv (.ref (G.1 + r) :: .ref (G.1 + a) :: st) := by
  subst hp
  intro p e s m args below meth c H locs ls hc hE hb hH hS hl
  obtain ⟨C, T, N, ty, f1, f2, f3, f4, f5, f6⟩ := hf
  have g := hft _ f1
  have hts := hc.2.2.2.2.1
  have he : (zws G (n9, sh, mm))[a]? = some (G.1 + a, .inr (ci, flds G.1 (mm a) 0 rs)) := by rw [zws_at (w := (n9, sh, mm)) ha, zcell_o (w := (n9, sh, mm)) hs]
  have hap := va_apart (own := M.1) hts f4 ty f5 f6 hH.2.1 f1
  obtain ⟨r9, h1, cell, q1, q2, q3, q4⟩ := hH.1 a _ he
  have hr9 : r9 = (C, T, N) := Option.some.inj (h1.symm.trans f1)
  subst hr9
  obtain ⟨hSl, hfc, kC, hkC, hkind⟩ := hH.2.1.1 ci _ f1
  obtain ⟨cf, kf, fi, f, hi, hsl⟩ := hSl q f2
  have hlay := hts _ (f4 _ (u_in_lay f2))
  unfold u_lay at hlay
  rw [if_pos g.2.1] at hlay
  have hst := (u_facts hfc hkC (u_lays hts f4 f2) hi).1
  have hcf : m.cls = cf := by
    obtain ⟨_, _, c', _, _, _, -, -, hf', -, -, -, hown2, -⟩ := Cond.laysFinal_spec hlay
    have e1 : c' = cf := by have := hi.symm.trans hf'; simp at this; exact this.1.symm
    rw [g.1] at hown2
    rw [← e1]
    exact Option.some.inj (hc.2.2.2.1.symm.trans hown2)
  have h6 := u_fits hfc hkC hkind (Or.inr hlay) hi g.2.2 (hn (G.1 + r)) (hfit (G.1 + r))
  have hnm : meth.name = "<init>" := by
    rcases hc.2.2.2.2.2.2.2.1 with h | h
    · rw [hin] at h
      exact absurd h (by decide)
    · rw [h, hin]
  refine W.putFinK hc.1 hc.2.1 hc.2.2.2.1 (hts _ f3) hi hst hcf hnm (by rw [q2]; exact h6) q1 q3 (by rw [hsl]; exact k2_hasslot (q4 q f2)) rfl rfl hd fun H' e1 e2 e3 => ?_
  rw [hsl] at e1 ⊢
  have hlt : q < (flds G.1 (mm a) 0 rs).length := by rw [flds_len]; exact (List.getElem?_eq_some_iff.mp hr).1
  have hP1 : va_P G.2.1 vwCl ((zws G (n9, sh, mm)).set a (G.1 + a, .inr (ci, (flds G.1 (mm a) 0 rs).set q (.ref (G.1 + r))))) H' := hH.1.set zws_D he ⟨_, f1, t_OB.to (V := updV (vp_V (flds G.1 (mm a) 0 rs)) q (.ref (G.1 + r))) ⟨_, e1, q2, q3, t_set q4 hap f2 _⟩ (fun j _ => vp_updV_set hlt _ j)⟩ e3
  refine kk p e s m args below meth c H' _ ls hc hE hb ⟨?_, hH.2.1, e2.trans hH.2.2⟩ (hS.put e2 e3 (Nat.le_add_right _ _)) hl
  rw [show (Value.ref (G.1 + r)) = zr G.1 (some r) from rfl, flds_setr rs 0 q hr] at hP1
  rw [zws_set (G := G) (w := (n9, sh, mm)) (w' := (n9, (fun a9 => if a9 = a then .inr (.inr (ci, rs.set q (some (some r)))) else sh a9), mm)) rfl (zcell_o (by simp)) ?_] at hP1
  · exact hP1
  · intro q9 hq9
    exact zcell_same (by simp [hq9]) rfl
theorem vp_inN {jj n : Nat} (h : jj < n) (hn : n < 2 ^ 31) : vp_in (nI jj) n := by
  unfold vp_in
  rw [nI_clamp (by omega)]
  have h2 := nI_pos (n := jj) (by omega)
  intro h3
  rcases h3 with h3 | h3
  · exact h2 h3
  · omega
theorem Z_iald (pc' : Nat) {n9 : Nat} {sh : Nat → zK} {mm : zM} {a n : Nat} {i : Int32} (hd : decode M.2.1 pc = .ok (.iaload, 1)) (hp : pc + 1 = pc') (ha : a < n9) (hs : sh a = .inl n) (hin : vp_in i n) (kk : Z G M E Qf l k j (n9, sh, mm) pc' lv (.int (mm a i.toNatClampNeg) :: st)) : Z G M E Qf l k j (n9, sh, mm) pc lv (.int i :: .ref (G.1 + a) :: st) := by
  subst hp
  intro p e s m args below meth c H locs ls hc hE hb hH hS hl
  exact va_iald hc.1 hc.2.1 hH.2.1 hH.1 a 0 (by rw [zws_at (w := (n9, sh, mm)) ha, zcell_i (w := (n9, sh, mm)) hs]) rfl hin hd (kk p e s m args below meth c H locs ls hc hE hb hH hS hl)
theorem Z_ialn (pc' : Nat) {n9 : Nat} {sh : Nat → zK} {mm : zM} {a n jj : Nat} (hd : decode M.2.1 pc = .ok (.iaload, 1)) (hp : pc + 1 = pc') (ha : a < n9) (hs : sh a = .inl n) (hj : jj < n) (hn : n < 2 ^ 31) (kk : Z G M E Qf l k j (n9, sh, mm) pc' lv (.int (mm a jj) :: st)) : Z G M E Qf l k j (n9, sh, mm) pc lv (.int (nI jj) :: .ref (G.1 + a) :: st) := by
  refine Z_iald pc' hd hp ha hs (vp_inN hj hn) ?_
  rw [nI_clamp (by omega)]
  exact kk
theorem Z_iast (pc' : Nat) {n9 : Nat} {sh : Nat → zK} {mm : zM} {a n : Nat} {i v : Int32} (hd : decode M.2.1 pc = .ok (.iastore, 1)) (hp : pc + 1 = pc') (ha : a < n9) (hs : sh a = .inl n) (hin : vp_in i n) (kk : Z G M E Qf l k j (n9, sh, up2 mm a i.toNatClampNeg v) pc' lv st) : Z G M E Qf l k j (n9, sh, mm) pc lv (.int v :: .int i :: .ref (G.1 + a) :: st) := by
  subst hp
  intro p e s m args below meth c H locs ls hc hE hb hH hS hl
  have he : (zws G (n9, sh, mm))[a]? = some (G.1 + a, .inl (G.2.2.1, n, .inl (mm a))) := by rw [zws_at (w := (n9, sh, mm)) ha, zcell_i (w := (n9, sh, mm)) hs]
  refine W.iast hc.1 hc.2.1 (hH.1 a _ he) ((hH.2.1.2 0 _ rfl).1 n (fun j => .int (mm a j))) (fun q => by cases q) (by show ¬ (i < 0 ∨ (arrV _ _ _).slots.size ≤ _); rw [arrV_size]; exact hin) rfl rfl hd fun H1 e9 z oq => ?_
  have hP1 : va_P G.2.1 vwCl ((zws G (n9, sh, mm)).set a (G.1 + a, .inl (G.2.2.1, n, .inl (upd (mm a) i.toNatClampNeg v)))) H1 := by
    refine hH.1.set zws_D he ?_ oq
    show H1[G.1 + a]? = some (vp_cell _ _)
    rw [e9]
    rw [vp_cell_i, vp_cell_i, arrV_store]
    congr 2
    funext q
    by_cases hq : q = i.toNatClampNeg
    · subst hq
      simp [updV, upd]
    · simp [updV, upd, hq]
  refine kk p e s m args below meth c H1 _ ls hc hE hb ⟨?_, hH.2.1, z.trans hH.2.2⟩ (hS.put z oq (Nat.le_add_right _ _)) hl
  rw [zws_set (G := G) (w := (n9, sh, mm)) (w' := (n9, sh, up2 mm a i.toNatClampNeg v)) rfl ((zcell_i (w := (n9, sh, up2 mm a i.toNatClampNeg v)) hs).trans ?_) ?_] at hP1
  · exact hP1
  · refine congrArg (fun f => (Sum.inl (G.2.2.1, n, Sum.inl f) : va_E)) ?_
    funext z
    show up2 mm a i.toNatClampNeg v a z = _
    simp [up2, upd]
  · intro q9 hq9
    exact zcell_same rfl (up2_na _ _ _ hq9)
theorem Z_iasn (pc' : Nat) {n9 : Nat} {sh : Nat → zK} {mm : zM} {a n jj : Nat} {v : Int32} (hd : decode M.2.1 pc = .ok (.iastore, 1)) (hp : pc + 1 = pc') (ha : a < n9) (hs : sh a = .inl n) (hj : jj < n) (hn : n < 2 ^ 31) (kk : Z G M E Qf l k j (n9, sh, up2 mm a jj v) pc' lv st) : Z G M E Qf l k j (n9, sh, mm) pc lv (.int v :: .int (nI jj) :: .ref (G.1 + a) :: st) := by
  refine Z_iast pc' hd hp ha hs (vp_inN hj hn) ?_
  rw [nI_clamp (by omega)]
  exact kk
theorem Z_aaln (pc' : Nat) {n9 : Nat} {sh : Nat → zK} {mm : zM} {a n jj r : Nat} {y : Bool} {f : Nat → Option Nat} (hd : decode M.2.1 pc = .ok (.aaload, 1)) (hp : pc + 1 = pc') (ha : a < n9) (hs : sh a = .inr (.inl (y, n, f))) (hj : jj < n) (hn : n < 2 ^ 31) (hf : f jj = some r) (kk : Z G M E Qf l k j (n9, sh, mm) pc' lv (.ref (G.1 + r) :: st)) : Z G M E Qf l k j (n9, sh, mm) pc lv (.int (nI jj) :: .ref (G.1 + a) :: st) := by
  subst hp
  intro p e s m args below meth c H locs ls hc hE hb hH hS hl
  have he : (zws G (n9, sh, mm))[a]? = some (G.1 + a, .inl (if y then G.2.2.2.2 else G.2.2.2.1, n, .inr (.inr (.inr (.inr (fun j => (f j).map (fun q => G.1 + q))))))) := by rw [zws_at (w := (n9, sh, mm)) ha, zcell_r (w := (n9, sh, mm)) hs]
  have hcl : (nI jj).toNatClampNeg = jj := nI_clamp (by omega)
  have hv : va_rf ((f jj).map (fun q => G.1 + q)) = Value.ref (G.1 + r) := by rw [hf]; rfl
  cases y with
  | false => exact W.aald (v := .ref (G.1 + r)) (ty := .object RX1) hc.1 hc.2.1 (hH.1 a _ he) ((hH.2.1.2 1 _ rfl).1 n (fun j => va_rf ((f j).map (fun q => G.1 + q)))) rfl (fun q => by cases q) (by show ¬ (nI jj < 0 ∨ (arrV _ _ _).slots.size ≤ _); rw [arrV_size]; exact vp_inN hj hn) (by show (arrV _ _ _).slots[_]? = _; rw [hcl, arrV_read _ _ hj, hv]) rfl rfl hd (kk p e s m args below meth c H locs ls hc hE hb hH hS hl)
  | true => exact W.aald (v := .ref (G.1 + r)) (ty := .array .int) hc.1 hc.2.1 (hH.1 a _ he) ((hH.2.1.2 2 _ rfl).1 n (fun j => va_rf ((f j).map (fun q => G.1 + q)))) rfl (fun q => by cases q) (by show ¬ (nI jj < 0 ∨ (arrV _ _ _).slots.size ≤ _); rw [arrV_size]; exact vp_inN hj hn) (by show (arrV _ _ _).slots[_]? = _; rw [hcl, arrV_read _ _ hj, hv]) rfl rfl hd (kk p e s m args below meth c H locs ls hc hE hb hH hS hl)
theorem Z_aasn (pc' : Nat) {n9 : Nat} {sh : Nat → zK} {mm : zM} {a n jj r : Nat} {f : Nat → Option Nat} {rs : List (Option (Option Nat))} (hd : decode M.2.1 pc = .ok (.aastore, 1)) (hp : pc + 1 = pc') (ha : a < n9) (hs : sh a = .inr (.inl (false, n, f))) (hj : jj < n) (hn : n < 2 ^ 31) (hra : r < n9) (hrs : sh r = .inr (.inr (1, rs))) (kk : Z G M E Qf l k j (n9, (fun a9 => if a9 = a then .inr (.inl (false, n, fun j9 => if j9 = jj then some r else f j9)) else sh a9), mm) pc' lv st) : Z G M E Qf l k j (n9, sh, mm) pc lv (.ref (G.1 + r) :: .int (nI jj) :: .ref (G.1 + a) :: st) := by
  subst hp
  intro p e s m args below meth c H locs ls hc hE hb hH hS hl
  have he : (zws G (n9, sh, mm))[a]? = some (G.1 + a, .inl (G.2.2.2.1, n, .inr (.inr (.inr (.inr (fun j => (f j).map (fun q => G.1 + q))))))) := by rw [zws_at (w := (n9, sh, mm)) ha, zcell_r (w := (n9, sh, mm)) hs]; rfl
  have hv : (zws G (n9, sh, mm))[r]? = some (G.1 + r, .inr (1, flds G.1 (mm r) 0 rs)) := by rw [zws_at (w := (n9, sh, mm)) hra, zcell_o (w := (n9, sh, mm)) hrs]
  have hcl : (nI jj).toNatClampNeg = jj := nI_clamp (by omega)
  have h0 : ¬ nI jj < 0 := nI_pos (by omega)
  obtain ⟨r', hr', cellV, g1, g2, g3, -⟩ := hH.1 r _ hv
  have hcls := (hH.2.1.1 1 _ (rfl : vwCl[1]? = some (RX1, TX1, 14))).2
  obtain ⟨kA, comp, k1, k2, k3, -⟩ := (hH.2.1.2 1 _ rfl).2
  have hcomp : comp = G.2.1.1 1 := Option.some.inj (k3.symm.trans hcls.1)
  subst hcomp
  obtain ⟨kC, hkC, -⟩ := hcls.2
  refine W.aast hc.1 hc.2.1 (hH.1 a _ he) (fun q h => by cases h) (fun h => by cases h) k1 k2 rfl hkC ⟨h0, by show _ < (arrV _ _ _).slots.size; rw [arrV_size, hcl]; exact hj⟩ g1 (fun q h => by rw [g3] at h; cases h) (by rw [g2]; exact hkC) (by rw [g2]; exact va_assign hcls) rfl rfl hd fun H1 e9 z oq => ?_
  have hP1 : va_P G.2.1 vwCl ((zws G (n9, sh, mm)).set a (G.1 + a, .inl (G.2.2.2.1, n, .inr (.inr (.inr (.inr (fun j => (if j = jj then some r else f j).map (fun q => G.1 + q)))))))) H1 := by
    refine hH.1.set zws_D he ?_ oq
    show H1[G.1 + a]? = some (vp_cell _ _)
    rw [e9]
    rw [vp_cell_q, vp_cell_q, arrV_store, hcl]
    congr 2
    funext q
    by_cases hq : q = jj
    · subst hq
      simp [updV, va_rf]
    · simp [updV, hq]
  refine kk p e s m args below meth c H1 _ ls hc hE hb ⟨?_, hH.2.1, z.trans hH.2.2⟩ (hS.put z oq (Nat.le_add_right _ _)) hl
  have hz : zcell G (n9, (fun a9 => if a9 = a then .inr (.inl (false, n, fun j9 => if j9 = jj then some r else f j9)) else sh a9), mm) a = .inl (G.2.2.2.1, n, .inr (.inr (.inr (.inr (fun j => (if j = jj then some r else f j).map (fun q => G.1 + q)))))) := (zcell_r (y := false) (n := n) (f := fun j9 => if j9 = jj then some r else f j9) (by simp)).trans rfl
  rw [zws_set (G := G) (w := (n9, sh, mm)) (a := a) (w' := (n9, (fun a9 => if a9 = a then .inr (.inl (false, n, fun j9 => if j9 = jj then some r else f j9)) else sh a9), mm)) rfl hz ?_] at hP1
  · exact hP1
  · intro q9 hq9
    exact zcell_same (by simp [hq9]) rfl
theorem Z_alen (pc' : Nat) {n9 : Nat} {sh : Nat → zK} {mm : zM} {a n : Nat} (hd : decode M.2.1 pc = .ok (.arraylength, 1)) (hp : pc + 1 = pc') (ha : a < n9) (hs : sh a = .inl n) (kk : Z G M E Qf l k j (n9, sh, mm) pc' lv (.int (nI n) :: st)) : Z G M E Qf l k j (n9, sh, mm) pc lv (.ref (G.1 + a) :: st) := by
  subst hp
  intro p e s m args below meth c H locs ls hc hE hb hH hS hl
  exact va_alen hc.1 hc.2.1 hH.2.1 hH.1 a 0 (x := (n, .inl (mm a))) (by rw [zws_at (w := (n9, sh, mm)) ha, zcell_i (w := (n9, sh, mm)) hs]) rfl rfl hd (kk p e s m args below meth c H locs ls hc hE hb hH hS hl)
theorem Z_sld (pc' : Nat) {b9 L : Nat} {xs : Nat → Int32} {i : Int32} (hE9 : ∀ s, E s → va_X b9 L xs s s.heap ∧ b9 < s.heap.size ∧ b9 < G.1) (hd : decode M.2.1 pc = .ok (.iaload, 1)) (hp : pc + 1 = pc') (hin : vp_in i L) (kk : Z G M E Qf l k j w pc' lv (.int (xs i.toNatClampNeg) :: st)) : Z G M E Qf l k j w pc lv (.int i :: .ref b9 :: st) := by
  subst hp
  intro p e s m args below meth c H locs ls hc hE hb hH hS hl
  obtain ⟨g1, g2, g3⟩ := hE9 s hE
  exact va_sld hc.1 hc.2.1 g1 g2 (Nat.not_le.mpr g3) hS hin hd (kk p e s m args below meth c H locs ls hc hE hb hH hS hl)
theorem Z_slen (pc' : Nat) {b9 L : Nat} {xs : Nat → Int32} (hE9 : ∀ s, E s → va_X b9 L xs s s.heap ∧ b9 < s.heap.size ∧ b9 < G.1) (hd : decode M.2.1 pc = .ok (.arraylength, 1)) (hp : pc + 1 = pc') (kk : Z G M E Qf l k j w pc' lv (.int (nI L) :: st)) : Z G M E Qf l k j w pc lv (.ref b9 :: st) := by
  subst hp
  intro p e s m args below meth c H locs ls hc hE hb hH hS hl
  obtain ⟨g1, g2, g3⟩ := hE9 s hE
  exact va_slen hc.1 hc.2.1 g1 g2 (Nat.not_le.mpr g3) hS hd (kk p e s m args below meth c H locs ls hc hE hb hH hS hl)
theorem Z_min (pc' : Nat) {idx : Nat} {x y : Int32} (hd : decode M.2.1 pc = .ok (.invokestatic idx, 3)) (hp : pc + 3 = pc') (hk : Cond.methodLink M.1 idx Lib.Math.min.name ∈ lw_ok) (hk2 : Cond.static Lib.Math.min.name ∈ lw_ok ∧ Cond.initialized "java/lang/Math" ∈ lw_ok ∧ Cond.code Lib.Math.min.name Lib.Math.min.code 2 (some .int) ∈ lw_ok) (hR : 1 ≤ M.2.2.2.2.2.frames ∧ (st.map fun v => v.category).sum + 13 ≤ M.2.2.2.2.2.locals ∧ k ≤ M.2.2.2.2.2.cells ∧ j ≤ M.2.2.2.2.2.slots) (kk : Z G M E Qf l k j w pc' lv (.int (if y < x then y else x) :: st)) : Z G M E Qf l k j w pc lv (.int y :: .int x :: st) := by
  subst hp
  intro p e s m args below meth c H locs ls hc hE hb hH hS hl
  exact va_mmin hc.1 hc.2.1 (hc.2.2.1.trans hl.1.symm) hc.2.2.2.1 (hc.2.2.2.2.1 _ hk) (hc.2.2.2.2.1 _ hk2.1) (hc.2.2.2.2.1 _ hk2.2.1) (hc.2.2.2.2.1 _ hk2.2.2) hR.1 hR.2.1 hR.2.2.1 hR.2.2.2 hd (kk p e s m args below meth c H locs ls hc hE hb hH hS hl)
theorem Z_top {v v' : Value} (h : v = v') (kk : Z G M E Qf l k j w pc lv (v' :: st)) : Z G M E Qf l k j w pc lv (v :: st) := h ▸ kk
end ZR
/-- what a method's end says: the answer, the world then -/
def zQ (G : zG) (P : Option Value → zW → Prop) : Array Value → State → Outcome → State → Prop := fun _ st o t => (∃ (r : Option Value) (w' : zW), o = .returned r ∧ P r w' ∧ zH G w' t t.heap) ∧ va_F (fun q => G.1 ≤ q) st t
abbrev zN (G : zG) (P : Option Value → zW → Prop) (mc ms : Nat) : List Frame → Array Value → State → State → Prop := fun below args s => MQ below (zQ G P) args s mc ms (fun q => G.1 ≤ q)
/-- a contract: the method y, with bytes and room of M, on these arguments and this world -/
def zMet (G : zG) (l : Launch) (y : MethodName) (M : zD) (as : List Value) (w : zW) (P : Option Value → zW → Prop) (mc ms : Nat) : Prop :=
  Met l y (Cond.code y M.2.1 M.2.2.1 M.2.2.2.1 :: lw_ok) M.2.2.2.2.2 (va_Pc as (fun U => zH G w U U.heap ∧ zX U)) (zQ G P) mc ms (fun q => G.1 ≤ q)
theorem lw_good : lw_ok.all goodWord = true := by
  unfold lw_ok
  rw [List.all_eq_true]
  intro w hw
  exact (List.mem_filter.mp hw).2
theorem zgood {y : MethodName} {M : zD} (h : Cond.code y M.2.1 M.2.2.1 M.2.2.2.1 ∈ lw_ok) : GoodIn lw_ok (Cond.code y M.2.1 M.2.2.1 M.2.2.2.1 :: lw_ok) := by
  have key : ∀ w ∈ lw_ok, w ∈ lw_ok ∧ ((w.onTables && w.keeps) = true ∨ ∃ ty, w = .arrayClass ty) := fun w hw => ⟨hw, good_of_word (List.all_eq_true.mp lw_good w hw)⟩
  intro w hw
  rcases List.mem_cons.mp hw with e | hw
  · rw [e]
    exact key _ h
  · exact key w hw
/-- what the tables must hold for a call -/
def zY (own : String) (idx : Nat) (y : MethodName) (M : zD) (n : Nat) : Prop := Cond.methodLink own idx y ∈ lw_ok ∧ Cond.initialized y.cls ∈ lw_ok ∧ Cond.code y M.2.1 M.2.2.1 M.2.2.2.1 ∈ lw_ok ∧ (y.cls ≠ "java/lang/invoke/MethodHandle" ∧ y.cls ≠ "java/lang/invoke/VarHandle" ∧ (parseMethodDescriptor y.desc).map (fun d => d.parameters.length) = some n)
section ZCR
variable {G : zG} {M : zD} {E : State → Prop} {Qf : List Frame → Array Value → State → State → Prop} {l : Launch} {k j : Nat} {w : zW} {pc : Nat} {lv : List (Nat × Value)} {st : List Value}
theorem zMet_of {y : MethodName} {as : List Value} {P : Option Value → zW → Prop} {mc ms : Nat} (lv : List (Nat × Value)) (hy : plainName y.cls = true) (ho : y.cls = M.1) (hn : M.2.2.2.2.1 = "" ∨ y.name = M.2.2.2.2.1) (hlen : (lg_sl as).length ≤ M.2.2.1) (hlv : lv_args 0 as = lv)
    (kk : Z G M (fun _ => True) (zN G P mc ms) l 0 0 w 0 lv []) : zMet G l y M as w P mc ms := by
  refine Met.ofW (cc := M.2.1) (maxL := M.2.2.1) (ret := M.2.2.2.1) hy rfl ?_
  intro p e s m args below meth c s₁ B hml hv
  obtain ⟨rfl, hH, hX⟩ := hv
  have hts := atoms_spec (ws := Cond.code y M.2.1 M.2.2.1 M.2.2.2.1 :: lw_ok) B.pre
  rw [lg_entry_eq]
  refine kk p e s m _ below meth c s.heap [] _ ⟨B.exec, B.bytes, hml, by rw [← ho]; exact findClass_of_methodNamed B.named, fun w hw => hts w (List.mem_cons_of_mem _ hw), B.returns, B.notSynchronized, ?_, hX⟩ trivial (by rw [hH.2.2]; exact Nat.le_add_right _ _) hH va_S.rf (by rw [← hlv]; exact lv_entry as hlen)
  rcases hn with h | h
  · exact Or.inl h
  · right
    rw [← h]
    exact (name_of_methodNamed B.named B.method).1
theorem zCore {st0 : List Value} {a : Array Value} {P : Option Value → zW → Prop} {mc ms : Nat} {p : Program} {e : Env} {s : State} {m : MethodId} {args : Array Value} {below : List Frame} {meth : Method} {c : Code} {H : Heap} {locs : List Loc} {ls : Array Slot}
    (hc : zC M p s m args meth c) (hE : E s) (hb : G.1 ≤ s.heap.size) (hH : zH G w s H) (hS : va_S (fun q => G.1 ≤ q) s.heap H locs) (hl : lv_has ls M.2.2.1 lv)
    (hr : va_Run p l e M.2.2.2.2.2 s m args below meth c H locs k j mc ms (F0 m pc ls st0) st (zQ G P a) (fun q => G.1 ≤ q))
    (kk : ∀ (r : Option Value) (w' : zW), P r w' → Z G M E Qf l (k + mc) (j + ms) w' (pc + 3) lv (r.toList ++ st)) : W p l e M.2.2.2.2.2 s m args below meth c H locs k j (Qf below args s) (F0 m pc ls st0) := by
  intro T hT X
  obtain ⟨v, st₀, t, T', L, h0, X', hL, e1, e2, ⟨⟨r, w', hv, hP, hH'⟩, hz, hk⟩, stp⟩ := hr T hT X
  cases hv
  rw [h0] at hz hk
  have hal : t.vm.Alike s.vm := by
    have := X'.warmed.alike
    rw [e2] at this
    exact this.symm
  obtain ⟨t2, a1, b1⟩ := kk v w' hP p e s m args below meth c T'.heap (locs ++ L) ls hc hE hb (by rw [e1]; exact hH'.moved hal)
    ⟨Nat.le_trans hS.1 (by rw [e1]; exact hz), fun q h1 h2 => by rw [e1, hk q (Nat.lt_of_lt_of_le h1 hS.1) h2]; exact hS.2.1 q h1 h2, fun q hq => by
      rcases List.mem_append.mp hq with h | h
      · exact hS.2.2 q h
      · exact hL q h⟩ hl T' rfl X'
  exact ⟨t2, stp t2 a1, b1⟩
theorem Z_callV (pc' : Nat) {idx n a : Nat} {y : MethodName} {M2 : zD} (As : List Value) {st0 : List Value} {rs : List (Option (Option Nat))} {P : Option Value → zW → Prop} {mc ms : Nat} (ci : Nat) (hM : zMet G l y M2 (.ref (G.1 + a) :: As) w P mc ms) (hd : decode M.2.1 pc = .ok (.invokevirtual idx, 3)) (hp : pc + 3 = pc') (hq : zY M.1 idx y M2 n) (hq2 : Cond.instanceMethod y ∈ lw_ok ∧ Cond.selects y.cls y y ∈ lw_ok) (hst : st0 = As.reverse ++ .ref (G.1 + a) :: st) (hn : As.length = n) (ha : a < w.1) (hs : w.2.1 a = .inr (.inr (ci, rs))) (hci : (vwCl[ci]?).map (fun q => q.1) = some y.cls) (hroom : M2.2.2.2.2.2.frames + 1 ≤ M.2.2.2.2.2.frames ∧ 8 + (M2.2.2.1 + 11) + M2.2.2.2.2.2.locals ≤ M.2.2.2.2.2.locals) (hcat : (st.map fun v => v.category).sum ≤ 8) (hrc : M2.2.2.2.2.2.cells = mc ∧ M2.2.2.2.2.2.slots = ms) (hf : k + mc ≤ M.2.2.2.2.2.cells ∧ j + ms ≤ M.2.2.2.2.2.slots) (kk : ∀ (r : Option Value) (w' : zW), P r w' → Z G M E Qf l (k + mc) (j + ms) w' pc' lv (r.toList ++ st)) : Z G M E Qf l k j w pc lv st0 := by
  subst hp
  intro p e s m args below meth c H locs ls hc hE hb hH hS hl
  have hts := hc.2.2.2.2.1
  obtain ⟨r9, g1, g2⟩ : ∃ r9 : vw_C, vwCl[ci]? = some r9 ∧ r9.1 = y.cls := by
    cases hv : vwCl[ci]? with
    | none => rw [hv] at hci; cases hci
    | some r9 => rw [hv] at hci; exact ⟨r9, rfl, Option.some.inj hci⟩
  have he : (zws G w)[a]? = some (G.1 + a, .inr (ci, flds G.1 (w.2.2 a) 0 rs)) := by rw [zws_at ha, zcell_o hs]
  refine zCore hc hE hb hH hS hl (va_runV (C := y.cls) (As := As) (rest := st) (n := n) ⟨hc.1, hc.2.1, hc.2.2.1, hc.2.2.2.1, hts⟩ hM ⟨callB_of n hts (zgood hq.2.2.1) rfl hrc.1 hrc.2 (hts _ hq.2.1) (hts _ hq.1) hq.2.2.2 hroom, hts _ hq2.1, hts _ hq2.2⟩ ⟨fun a U g mk q => ⟨q.1, q.2.1.moved (u := U) (U := U.calling g mk a) (Vm.Alike.refl U.vm), q.2.2.same (U := U.calling g mk a) rfl⟩, ?_, fun U hU hW => ⟨rfl, by show zH G w U U.heap; rw [hU]; exact hH.moved hW.alike, hc.2.2.2.2.2.2.2.2.warm hW⟩⟩ rfl hn hl.1 hst (lv_room hcat) hd hf) kk
  have := va_recv hH.2.1 hH.1 g1 he
  rw [g2] at this
  exact this
theorem Z_callS (pc' : Nat) {idx n : Nat} {y : MethodName} {M2 : zD} (As : List Value) {st0 : List Value} {P : Option Value → zW → Prop} {mc ms : Nat} (hM : zMet G l y M2 As w P mc ms) (hd : decode M.2.1 pc = .ok (.invokestatic idx, 3)) (hp : pc + 3 = pc') (hq : zY M.1 idx y M2 n) (hq2 : Cond.static y ∈ lw_ok) (hst : st0 = As.reverse ++ st) (hn : As.length = n) (hroom : M2.2.2.2.2.2.frames + 1 ≤ M.2.2.2.2.2.frames ∧ 8 + (M2.2.2.1 + 11) + M2.2.2.2.2.2.locals ≤ M.2.2.2.2.2.locals) (hcat : (st.map fun v => v.category).sum ≤ 8) (hrc : M2.2.2.2.2.2.cells = mc ∧ M2.2.2.2.2.2.slots = ms) (hf : k + mc ≤ M.2.2.2.2.2.cells ∧ j + ms ≤ M.2.2.2.2.2.slots) (kk : ∀ (r : Option Value) (w' : zW), P r w' → Z G M E Qf l (k + mc) (j + ms) w' pc' lv (r.toList ++ st)) : Z G M E Qf l k j w pc lv st0 := by
  subst hp
  intro p e s m args below meth c H locs ls hc hE hb hH hS hl
  have hts := hc.2.2.2.2.1
  exact zCore hc hE hb hH hS hl (va_runS (As := As) (rest := st) (n := n) ⟨hc.1, hc.2.1, hc.2.2.1, hc.2.2.2.1, hts⟩ hM ⟨callB_of n hts (zgood hq.2.2.1) rfl hrc.1 hrc.2 (hts _ hq.2.1) (hts _ hq.1) hq.2.2.2 hroom, hts _ hq2⟩ ⟨fun a U g mk q => ⟨q.1, q.2.1.moved (u := U) (U := U.calling g mk a) (Vm.Alike.refl U.vm), q.2.2.same (U := U.calling g mk a) rfl⟩, fun U hU hW => ⟨rfl, by show zH G w U U.heap; rw [hU]; exact hH.moved hW.alike, hc.2.2.2.2.2.2.2.2.warm hW⟩⟩ rfl hn hl.1 hst (lv_room hcat) hd hf) kk
theorem Z_callI (pc' : Nat) {idx n a : Nat} {y : MethodName} {M2 : zD} (As : List Value) {st0 : List Value} {P : Option Value → zW → Prop} {mc ms : Nat} (hM : zMet G l y M2 (.ref (G.1 + a) :: As) w P mc ms) (hret : M2.2.2.2.1 = none) (hd : decode M.2.1 pc = .ok (.invokespecial idx, 3)) (hp : pc + 3 = pc') (hq : zY M.1 idx y M2 n) (hq2 : y.name = "<init>" ∧ Cond.instanceMethod y ∈ lw_ok) (hst : st0 = As.reverse ++ .ref (G.1 + a) :: st) (hn : As.length = n) (hroom : M2.2.2.2.2.2.frames + 1 ≤ M.2.2.2.2.2.frames ∧ 8 + (M2.2.2.1 + 11) + M2.2.2.2.2.2.locals ≤ M.2.2.2.2.2.locals) (hcat : (st.map fun v => v.category).sum ≤ 8) (hrc : M2.2.2.2.2.2.cells = mc ∧ M2.2.2.2.2.2.slots = ms) (hf : k + mc ≤ M.2.2.2.2.2.cells ∧ j + ms ≤ M.2.2.2.2.2.slots) (kk : ∀ (r : Option Value) (w' : zW), P r w' → Z G M E Qf l (k + mc) (j + ms) w' pc' lv (r.toList ++ st)) : Z G M E Qf l k j w pc lv st0 := by
  subst hp
  intro p e s m args below meth c H locs ls hc hE hb hH hS hl
  have hts := hc.2.2.2.2.1
  obtain ⟨o2, b2, n2, r2, nm2, R2⟩ := M2
  cases (show r2 = none from hret)
  exact zCore hc hE hb hH hS hl (va_runI (As := As) (rest := st) (n := n) ⟨hc.1, hc.2.1, hc.2.2.1, hc.2.2.2.1, hts⟩ hM ⟨callB_of n hts (zgood (M := (o2, b2, n2, none, nm2, R2)) hq.2.2.1) rfl hrc.1 hrc.2 (hts _ hq.2.1) (hts _ hq.1) hq.2.2.2 hroom, hq2.1, hts _ hq2.2⟩ ⟨fun a U g mk q => ⟨q.1, q.2.1.moved (u := U) (U := U.calling g mk a) (Vm.Alike.refl U.vm), q.2.2.same (U := U.calling g mk a) rfl⟩, fun U hU hW => ⟨rfl, by show zH G w U U.heap; rw [hU]; exact hH.moved hW.alike, hc.2.2.2.2.2.2.2.2.warm hW⟩⟩ rfl hn hl.1 hst (lv_room hcat) hd hf) kk
theorem Z_objInit (pc' : Nat) {idx a : Nat} (hd : decode M.2.1 pc = .ok (.invokespecial idx, 3)) (hp : pc + 3 = pc') (hk : Cond.methodLink M.1 idx objectInit ∈ lw_ok ∧ Cond.instanceMethod objectInit ∈ lw_ok ∧ Cond.code objectInit ⟨#[0xb1]⟩ 1 none ∈ lw_ok) (hR : 1 ≤ M.2.2.2.2.2.frames ∧ 12 ≤ M.2.2.2.2.2.locals) (hz : st = []) (hsl : k ≤ M.2.2.2.2.2.cells ∧ j ≤ M.2.2.2.2.2.slots) (kk : Z G M E Qf l k j w pc' lv []) : Z G M E Qf l k j w pc lv (.ref (G.1 + a) :: st) := by
  subst hp
  subst hz
  intro p e s m args below meth c H locs ls hc hE hb hH hS hl
  have hts := hc.2.2.2.2.1
  refine W.objInit hc.1 hc.2.1 hc.2.2.2.1 (hts _ hk.1) (hts _ hk.2.1) (hts _ hk.2.2) rfl (by rw [hc.2.2.1]; exact hl.1) rfl hd hR.1 ?_ ?_
  · exact hR.2
  · exact kk p e s m args below meth c H locs ls hc hE hb hH hS hl
theorem Z_iret {P : Option Value → zW → Prop} {v : Int32} (hd : decode M.2.1 pc = .ok (.ireturn, 1)) (hr : M.2.2.2.1 = some .int) (hP : P (some (.int v)) w) : Z G M E (zN G P k j) l k j w pc lv [.int v] := by
  intro p e s m args below meth c H locs ls hc hE hb hH hS hl
  exact W.iret hc.1 hc.2.1 (hc.2.2.2.2.2.1.trans hr) (fun t ht hW => ⟨⟨_, w, rfl, hP, by rw [ht]; exact hH.moved hW.alike⟩, hS.F ht⟩) hS.2.2 hd hc.2.2.2.2.2.2.1
theorem Z_dret {P : Option Value → zW → Prop} {v : UInt64} (hd : decode M.2.1 pc = .ok (.dreturn, 1)) (hr : M.2.2.2.1 = some .double) (hP : P (some (.double v)) w) : Z G M E (zN G P k j) l k j w pc lv [.double v] := by
  intro p e s m args below meth c H locs ls hc hE hb hH hS hl
  exact W.dret hc.1 hc.2.1 (hc.2.2.2.2.2.1.trans hr) (fun t ht hW => ⟨⟨_, w, rfl, hP, by rw [ht]; exact hH.moved hW.alike⟩, hS.F ht⟩) hS.2.2 hd hc.2.2.2.2.2.2.1
theorem Z_zret {P : Option Value → zW → Prop} {v : Int32} (hd : decode M.2.1 pc = .ok (.ireturn, 1)) (hr : M.2.2.2.1 = some .boolean) (hv : v = 0 ∨ v = 1) (hP : P (some (.int v)) w) : Z G M E (zN G P k j) l k j w pc lv [.int v] := by
  intro p e s m args below meth c H locs ls hc hE hb hH hS hl
  exact W.zret hc.1 hc.2.1 (hc.2.2.2.2.2.1.trans hr) (by rcases hv with rfl | rfl <;> rfl) (fun t ht hW => ⟨⟨_, w, rfl, hP, by rw [ht]; exact hH.moved hW.alike⟩, hS.F ht⟩) hS.2.2 hd hc.2.2.2.2.2.2.1
theorem Z_vret {P : Option Value → zW → Prop} (hd : decode M.2.1 pc = .ok (.return_, 1)) (hr : M.2.2.2.1 = none) (hP : P none w) : Z G M E (zN G P k j) l k j w pc lv [] := by
  intro p e s m args below meth c H locs ls hc hE hb hH hS hl
  exact W.vret hc.1 hc.2.1 (hc.2.2.2.2.2.1.trans hr) (fun t ht hW => ⟨⟨_, w, rfl, hP, by rw [ht]; exact hH.moved hW.alike⟩, hS.F ht⟩) hS.2.2 hd hc.2.2.2.2.2.2.1
end ZCR
end
section
theorem lw_ins {ws : List Cond} (ps : List Nat) (hp : ws = ps.filterMap (fun i => lw_tbl[i]?)) (h : ws.all goodWord = true) : ∀ w ∈ ws, w ∈ lw_ok := by
  intro w hw
  have hg := List.all_eq_true.mp h w hw
  rw [hp] at hw
  obtain ⟨i, -, hi⟩ := List.mem_filterMap.mp hw
  exact List.mem_filter.mpr ⟨List.mem_of_getElem? hi, hg⟩
theorem inK_0 : ∀ w ∈ u_ws RX0 TX0 10, w ∈ lw_ok := lw_ins [189, 191, 193, 195, 197, 199, 201, 203, 205, 207] (by decide +kernel) (by decide +kernel)
theorem inK_1 : ∀ w ∈ u_ws RX1 TX1 14, w ∈ lw_ok := lw_ins [116, 118, 120, 122, 124, 126, 128, 130, 132, 134, 136, 138, 140, 142] (by decide +kernel) (by decide +kernel)
theorem inK_2 : ∀ w ∈ u_ws RX2 TX2 3, w ∈ lw_ok := lw_ins [159, 161, 163] (by decide +kernel) (by decide +kernel)
theorem inK_3 : ∀ w ∈ u_ws RX3 TX3 10, w ∈ lw_ok := lw_ins [220, 222, 224, 226, 228, 230, 232, 234, 236, 238] (by decide +kernel) (by decide +kernel)
theorem inK_4 : ∀ w ∈ u_ws RX4 TX4 17, w ∈ lw_ok := lw_ins [582, 584, 586, 588, 590, 592, 594, 596, 598, 600, 602, 604, 606, 608, 610, 612, 614] (by decide +kernel) (by decide +kernel)
theorem fX1_9 : zF RX1 9 1 0 := ⟨RX1, TX1, 14, tyX1, rfl, by decide, lw_in 83 (by decide +kernel) (by decide +kernel), inK_1, tyX1_ok, nmX1⟩
theorem fX3_44 : zF RX3 44 1 0 := ⟨RX1, TX1, 14, tyX1, rfl, by decide, lw_in 84 (by decide +kernel) (by decide +kernel), inK_1, tyX1_ok, nmX1⟩
theorem fX2_64 : zF RX2 64 1 0 := ⟨RX1, TX1, 14, tyX1, rfl, by decide, lw_in 85 (by decide +kernel) (by decide +kernel), inK_1, tyX1_ok, nmX1⟩
theorem fX1_15 : zF RX1 15 1 1 := ⟨RX1, TX1, 14, tyX1, rfl, by decide, lw_in 86 (by decide +kernel) (by decide +kernel), inK_1, tyX1_ok, nmX1⟩
theorem fX3_48 : zF RX3 48 1 1 := ⟨RX1, TX1, 14, tyX1, rfl, by decide, lw_in 87 (by decide +kernel) (by decide +kernel), inK_1, tyX1_ok, nmX1⟩
theorem fX1_18 : zF RX1 18 1 2 := ⟨RX1, TX1, 14, tyX1, rfl, by decide, lw_in 88 (by decide +kernel) (by decide +kernel), inK_1, tyX1_ok, nmX1⟩
theorem fX3_51 : zF RX3 51 1 2 := ⟨RX1, TX1, 14, tyX1, rfl, by decide, lw_in 89 (by decide +kernel) (by decide +kernel), inK_1, tyX1_ok, nmX1⟩
theorem fX1_21 : zF RX1 21 1 3 := ⟨RX1, TX1, 14, tyX1, rfl, by decide, lw_in 90 (by decide +kernel) (by decide +kernel), inK_1, tyX1_ok, nmX1⟩
theorem fX3_147 : zF RX3 147 1 3 := ⟨RX1, TX1, 14, tyX1, rfl, by decide, lw_in 91 (by decide +kernel) (by decide +kernel), inK_1, tyX1_ok, nmX1⟩
theorem fX1_24 : zF RX1 24 1 4 := ⟨RX1, TX1, 14, tyX1, rfl, by decide, lw_in 92 (by decide +kernel) (by decide +kernel), inK_1, tyX1_ok, nmX1⟩
theorem fX2_34 : zF RX2 34 1 4 := ⟨RX1, TX1, 14, tyX1, rfl, by decide, lw_in 93 (by decide +kernel) (by decide +kernel), inK_1, tyX1_ok, nmX1⟩
theorem fX3_150 : zF RX3 150 1 4 := ⟨RX1, TX1, 14, tyX1, rfl, by decide, lw_in 94 (by decide +kernel) (by decide +kernel), inK_1, tyX1_ok, nmX1⟩
theorem fX1_27 : zF RX1 27 1 5 := ⟨RX1, TX1, 14, tyX1, rfl, by decide, lw_in 95 (by decide +kernel) (by decide +kernel), inK_1, tyX1_ok, nmX1⟩
theorem fX2_41 : zF RX2 41 1 5 := ⟨RX1, TX1, 14, tyX1, rfl, by decide, lw_in 96 (by decide +kernel) (by decide +kernel), inK_1, tyX1_ok, nmX1⟩
theorem fX3_153 : zF RX3 153 1 5 := ⟨RX1, TX1, 14, tyX1, rfl, by decide, lw_in 97 (by decide +kernel) (by decide +kernel), inK_1, tyX1_ok, nmX1⟩
theorem fX1_30 : zF RX1 30 1 6 := ⟨RX1, TX1, 14, tyX1, rfl, by decide, lw_in 98 (by decide +kernel) (by decide +kernel), inK_1, tyX1_ok, nmX1⟩
theorem fX2_44 : zF RX2 44 1 6 := ⟨RX1, TX1, 14, tyX1, rfl, by decide, lw_in 99 (by decide +kernel) (by decide +kernel), inK_1, tyX1_ok, nmX1⟩
theorem fX3_156 : zF RX3 156 1 6 := ⟨RX1, TX1, 14, tyX1, rfl, by decide, lw_in 100 (by decide +kernel) (by decide +kernel), inK_1, tyX1_ok, nmX1⟩
theorem fX1_33 : zF RX1 33 1 7 := ⟨RX1, TX1, 14, tyX1, rfl, by decide, lw_in 101 (by decide +kernel) (by decide +kernel), inK_1, tyX1_ok, nmX1⟩
theorem fX3_110 : zF RX3 110 1 7 := ⟨RX1, TX1, 14, tyX1, rfl, by decide, lw_in 102 (by decide +kernel) (by decide +kernel), inK_1, tyX1_ok, nmX1⟩
theorem fX1_40 : zF RX1 40 1 8 := ⟨RX1, TX1, 14, tyX1, rfl, by decide, lw_in 103 (by decide +kernel) (by decide +kernel), inK_1, tyX1_ok, nmX1⟩
theorem fX2_28 : zF RX2 28 1 8 := ⟨RX1, TX1, 14, tyX1, rfl, by decide, lw_in 104 (by decide +kernel) (by decide +kernel), inK_1, tyX1_ok, nmX1⟩
theorem fX3_101 : zF RX3 101 1 8 := ⟨RX1, TX1, 14, tyX1, rfl, by decide, lw_in 105 (by decide +kernel) (by decide +kernel), inK_1, tyX1_ok, nmX1⟩
theorem fX1_43 : zF RX1 43 1 9 := ⟨RX1, TX1, 14, tyX1, rfl, by decide, lw_in 106 (by decide +kernel) (by decide +kernel), inK_1, tyX1_ok, nmX1⟩
theorem fX3_54 : zF RX3 54 1 9 := ⟨RX1, TX1, 14, tyX1, rfl, by decide, lw_in 107 (by decide +kernel) (by decide +kernel), inK_1, tyX1_ok, nmX1⟩
theorem fX1_36 : zF RX1 36 1 10 := ⟨RX1, TX1, 14, tyX1, rfl, by decide, lw_in 108 (by decide +kernel) (by decide +kernel), inK_1, tyX1_ok, nmX1⟩
theorem fX3_107 : zF RX3 107 1 10 := ⟨RX1, TX1, 14, tyX1, rfl, by decide, lw_in 109 (by decide +kernel) (by decide +kernel), inK_1, tyX1_ok, nmX1⟩
theorem fX1_46 : zF RX1 46 1 11 := ⟨RX1, TX1, 14, tyX1, rfl, by decide, lw_in 110 (by decide +kernel) (by decide +kernel), inK_1, tyX1_ok, nmX1⟩
theorem fX3_191 : zF RX3 191 1 11 := ⟨RX1, TX1, 14, tyX1, rfl, by decide, lw_in 111 (by decide +kernel) (by decide +kernel), inK_1, tyX1_ok, nmX1⟩
theorem fX1_49 : zF RX1 49 1 12 := ⟨RX1, TX1, 14, tyX1, rfl, by decide, lw_in 112 (by decide +kernel) (by decide +kernel), inK_1, tyX1_ok, nmX1⟩
theorem fX3_194 : zF RX3 194 1 12 := ⟨RX1, TX1, 14, tyX1, rfl, by decide, lw_in 113 (by decide +kernel) (by decide +kernel), inK_1, tyX1_ok, nmX1⟩
theorem fX1_52 : zF RX1 52 1 13 := ⟨RX1, TX1, 14, tyX1, rfl, by decide, lw_in 114 (by decide +kernel) (by decide +kernel), inK_1, tyX1_ok, nmX1⟩
theorem fX3_197 : zF RX3 197 1 13 := ⟨RX1, TX1, 14, tyX1, rfl, by decide, lw_in 115 (by decide +kernel) (by decide +kernel), inK_1, tyX1_ok, nmX1⟩
theorem fX2_9 : zF RX2 9 2 0 := ⟨RX2, TX2, 3, tyX2, rfl, by decide, lw_in 155 (by decide +kernel) (by decide +kernel), inK_2, tyX2_ok, nmX2⟩
theorem fX3_77 : zF RX3 77 2 0 := ⟨RX2, TX2, 3, tyX2, rfl, by decide, lw_in 156 (by decide +kernel) (by decide +kernel), inK_2, tyX2_ok, nmX2⟩
theorem fX2_15 : zF RX2 15 2 1 := ⟨RX2, TX2, 3, tyX2, rfl, by decide, lw_in 157 (by decide +kernel) (by decide +kernel), inK_2, tyX2_ok, nmX2⟩
theorem fX2_20 : zF RX2 20 2 2 := ⟨RX2, TX2, 3, tyX2, rfl, by decide, lw_in 158 (by decide +kernel) (by decide +kernel), inK_2, tyX2_ok, nmX2⟩
theorem fX0_9 : zF RX0 9 0 0 := ⟨RX0, TX0, 10, tyX0, rfl, by decide, lw_in 172 (by decide +kernel) (by decide +kernel), inK_0, tyX0_ok, nmX0⟩
theorem fX3_119 : zF RX3 119 0 0 := ⟨RX0, TX0, 10, tyX0, rfl, by decide, lw_in 173 (by decide +kernel) (by decide +kernel), inK_0, tyX0_ok, nmX0⟩
theorem fX0_31 : zF RX0 31 0 1 := ⟨RX0, TX0, 10, tyX0, rfl, by decide, lw_in 174 (by decide +kernel) (by decide +kernel), inK_0, tyX0_ok, nmX0⟩
theorem fX3_116 : zF RX3 116 0 1 := ⟨RX0, TX0, 10, tyX0, rfl, by decide, lw_in 175 (by decide +kernel) (by decide +kernel), inK_0, tyX0_ok, nmX0⟩
theorem fX0_15 : zF RX0 15 0 2 := ⟨RX0, TX0, 10, tyX0, rfl, by decide, lw_in 176 (by decide +kernel) (by decide +kernel), inK_0, tyX0_ok, nmX0⟩
theorem fX3_138 : zF RX3 138 0 2 := ⟨RX0, TX0, 10, tyX0, rfl, by decide, lw_in 177 (by decide +kernel) (by decide +kernel), inK_0, tyX0_ok, nmX0⟩
theorem fX0_18 : zF RX0 18 0 3 := ⟨RX0, TX0, 10, tyX0, rfl, by decide, lw_in 178 (by decide +kernel) (by decide +kernel), inK_0, tyX0_ok, nmX0⟩
theorem fX3_225 : zF RX3 225 0 3 := ⟨RX0, TX0, 10, tyX0, rfl, by decide, lw_in 179 (by decide +kernel) (by decide +kernel), inK_0, tyX0_ok, nmX0⟩
theorem fX0_21 : zF RX0 21 0 4 := ⟨RX0, TX0, 10, tyX0, rfl, by decide, lw_in 180 (by decide +kernel) (by decide +kernel), inK_0, tyX0_ok, nmX0⟩
theorem fX3_226 : zF RX3 226 0 4 := ⟨RX0, TX0, 10, tyX0, rfl, by decide, lw_in 181 (by decide +kernel) (by decide +kernel), inK_0, tyX0_ok, nmX0⟩
theorem fX0_24 : zF RX0 24 0 5 := ⟨RX0, TX0, 10, tyX0, rfl, by decide, lw_in 182 (by decide +kernel) (by decide +kernel), inK_0, tyX0_ok, nmX0⟩
theorem fX3_227 : zF RX3 227 0 5 := ⟨RX0, TX0, 10, tyX0, rfl, by decide, lw_in 183 (by decide +kernel) (by decide +kernel), inK_0, tyX0_ok, nmX0⟩
theorem fX0_27 : zF RX0 27 0 6 := ⟨RX0, TX0, 10, tyX0, rfl, by decide, lw_in 184 (by decide +kernel) (by decide +kernel), inK_0, tyX0_ok, nmX0⟩
theorem fX3_129 : zF RX3 129 0 6 := ⟨RX0, TX0, 10, tyX0, rfl, by decide, lw_in 185 (by decide +kernel) (by decide +kernel), inK_0, tyX0_ok, nmX0⟩
theorem fX0_58 : zF RX0 58 0 7 := ⟨RX0, TX0, 10, tyX0, rfl, by decide, lw_in 186 (by decide +kernel) (by decide +kernel), inK_0, tyX0_ok, nmX0⟩
theorem fX0_61 : zF RX0 61 0 8 := ⟨RX0, TX0, 10, tyX0, rfl, by decide, lw_in 187 (by decide +kernel) (by decide +kernel), inK_0, tyX0_ok, nmX0⟩
theorem fX0_64 : zF RX0 64 0 9 := ⟨RX0, TX0, 10, tyX0, rfl, by decide, lw_in 188 (by decide +kernel) (by decide +kernel), inK_0, tyX0_ok, nmX0⟩
theorem fX3_10 : zF RX3 10 3 0 := ⟨RX3, TX3, 10, tyX3, rfl, by decide, lw_in 210 (by decide +kernel) (by decide +kernel), inK_3, tyX3_ok, nmX3⟩
theorem fX3_16 : zF RX3 16 3 1 := ⟨RX3, TX3, 10, tyX3, rfl, by decide, lw_in 211 (by decide +kernel) (by decide +kernel), inK_3, tyX3_ok, nmX3⟩
theorem fX3_19 : zF RX3 19 3 2 := ⟨RX3, TX3, 10, tyX3, rfl, by decide, lw_in 212 (by decide +kernel) (by decide +kernel), inK_3, tyX3_ok, nmX3⟩
theorem fX3_26 : zF RX3 26 3 3 := ⟨RX3, TX3, 10, tyX3, rfl, by decide, lw_in 213 (by decide +kernel) (by decide +kernel), inK_3, tyX3_ok, nmX3⟩
theorem fX3_33 : zF RX3 33 3 4 := ⟨RX3, TX3, 10, tyX3, rfl, by decide, lw_in 214 (by decide +kernel) (by decide +kernel), inK_3, tyX3_ok, nmX3⟩
theorem fX3_200 : zF RX3 200 3 5 := ⟨RX3, TX3, 10, tyX3, rfl, by decide, lw_in 215 (by decide +kernel) (by decide +kernel), inK_3, tyX3_ok, nmX3⟩
theorem fX3_214 : zF RX3 214 3 6 := ⟨RX3, TX3, 10, tyX3, rfl, by decide, lw_in 216 (by decide +kernel) (by decide +kernel), inK_3, tyX3_ok, nmX3⟩
theorem fX3_126 : zF RX3 126 3 7 := ⟨RX3, TX3, 10, tyX3, rfl, by decide, lw_in 217 (by decide +kernel) (by decide +kernel), inK_3, tyX3_ok, nmX3⟩
theorem fX3_135 : zF RX3 135 3 8 := ⟨RX3, TX3, 10, tyX3, rfl, by decide, lw_in 218 (by decide +kernel) (by decide +kernel), inK_3, tyX3_ok, nmX3⟩
theorem fX3_141 : zF RX3 141 3 9 := ⟨RX3, TX3, 10, tyX3, rfl, by decide, lw_in 219 (by decide +kernel) (by decide +kernel), inK_3, tyX3_ok, nmX3⟩
theorem fX4_7 : zF RX4 7 4 0 := ⟨RX4, TX4, 17, tyX4, rfl, by decide, lw_in 565 (by decide +kernel) (by decide +kernel), inK_4, tyX4_ok, nmX4⟩
theorem fX4_13 : zF RX4 13 4 1 := ⟨RX4, TX4, 17, tyX4, rfl, by decide, lw_in 566 (by decide +kernel) (by decide +kernel), inK_4, tyX4_ok, nmX4⟩
theorem fX4_16 : zF RX4 16 4 2 := ⟨RX4, TX4, 17, tyX4, rfl, by decide, lw_in 567 (by decide +kernel) (by decide +kernel), inK_4, tyX4_ok, nmX4⟩
theorem fX4_38 : zF RX4 38 4 3 := ⟨RX4, TX4, 17, tyX4, rfl, by decide, lw_in 568 (by decide +kernel) (by decide +kernel), inK_4, tyX4_ok, nmX4⟩
theorem fX4_19 : zF RX4 19 4 4 := ⟨RX4, TX4, 17, tyX4, rfl, by decide, lw_in 569 (by decide +kernel) (by decide +kernel), inK_4, tyX4_ok, nmX4⟩
theorem fX4_203 : zF RX4 203 4 5 := ⟨RX4, TX4, 17, tyX4, rfl, by decide, lw_in 570 (by decide +kernel) (by decide +kernel), inK_4, tyX4_ok, nmX4⟩
theorem fX4_22 : zF RX4 22 4 6 := ⟨RX4, TX4, 17, tyX4, rfl, by decide, lw_in 571 (by decide +kernel) (by decide +kernel), inK_4, tyX4_ok, nmX4⟩
theorem fX4_135 : zF RX4 135 4 7 := ⟨RX4, TX4, 17, tyX4, rfl, by decide, lw_in 572 (by decide +kernel) (by decide +kernel), inK_4, tyX4_ok, nmX4⟩
theorem fX4_25 : zF RX4 25 4 8 := ⟨RX4, TX4, 17, tyX4, rfl, by decide, lw_in 573 (by decide +kernel) (by decide +kernel), inK_4, tyX4_ok, nmX4⟩
theorem fX4_28 : zF RX4 28 4 9 := ⟨RX4, TX4, 17, tyX4, rfl, by decide, lw_in 574 (by decide +kernel) (by decide +kernel), inK_4, tyX4_ok, nmX4⟩
theorem fX4_138 : zF RX4 138 4 10 := ⟨RX4, TX4, 17, tyX4, rfl, by decide, lw_in 575 (by decide +kernel) (by decide +kernel), inK_4, tyX4_ok, nmX4⟩
theorem fX4_141 : zF RX4 141 4 11 := ⟨RX4, TX4, 17, tyX4, rfl, by decide, lw_in 576 (by decide +kernel) (by decide +kernel), inK_4, tyX4_ok, nmX4⟩
theorem fX4_155 : zF RX4 155 4 12 := ⟨RX4, TX4, 17, tyX4, rfl, by decide, lw_in 577 (by decide +kernel) (by decide +kernel), inK_4, tyX4_ok, nmX4⟩
theorem fX4_158 : zF RX4 158 4 13 := ⟨RX4, TX4, 17, tyX4, rfl, by decide, lw_in 578 (by decide +kernel) (by decide +kernel), inK_4, tyX4_ok, nmX4⟩
theorem fX4_161 : zF RX4 161 4 14 := ⟨RX4, TX4, 17, tyX4, rfl, by decide, lw_in 579 (by decide +kernel) (by decide +kernel), inK_4, tyX4_ok, nmX4⟩
theorem fX4_173 : zF RX4 173 4 15 := ⟨RX4, TX4, 17, tyX4, rfl, by decide, lw_in 580 (by decide +kernel) (by decide +kernel), inK_4, tyX4_ok, nmX4⟩
theorem fX4_31 : zF RX4 31 4 16 := ⟨RX4, TX4, 17, tyX4, rfl, by decide, lw_in 581 (by decide +kernel) (by decide +kernel), inK_4, tyX4_ok, nmX4⟩
theorem fr_0_0 : zFt 0 0 (fun f => f.1 = RX0 ∧ f.2.2.2 = true ∧ parseFieldDescriptor f.2.2.1 = some (.array .int)) := by
  intro r hr
  cases hr
  exact ⟨rfl, rfl, by decide +kernel⟩
theorem ft_0_1 : zFt 0 1 (fun f => f.2.2.2 = false ∧ parseFieldDescriptor f.2.2.1 = some .int) := by
  intro r hr
  cases hr
  exact ⟨rfl, by decide +kernel⟩
theorem fr_0_2 : zFt 0 2 (fun f => f.1 = RX0 ∧ f.2.2.2 = true ∧ parseFieldDescriptor f.2.2.1 = some (.array .int)) := by
  intro r hr
  cases hr
  exact ⟨rfl, rfl, by decide +kernel⟩
theorem fr_0_3 : zFt 0 3 (fun f => f.1 = RX0 ∧ f.2.2.2 = true ∧ parseFieldDescriptor f.2.2.1 = some (.array .int)) := by
  intro r hr
  cases hr
  exact ⟨rfl, rfl, by decide +kernel⟩
theorem fr_0_4 : zFt 0 4 (fun f => f.1 = RX0 ∧ f.2.2.2 = true ∧ parseFieldDescriptor f.2.2.1 = some (.array .int)) := by
  intro r hr
  cases hr
  exact ⟨rfl, rfl, by decide +kernel⟩
theorem fr_0_5 : zFt 0 5 (fun f => f.1 = RX0 ∧ f.2.2.2 = true ∧ parseFieldDescriptor f.2.2.1 = some (.array .int)) := by
  intro r hr
  cases hr
  exact ⟨rfl, rfl, by decide +kernel⟩
theorem ft_0_6 : zFt 0 6 (fun f => f.2.2.2 = false ∧ parseFieldDescriptor f.2.2.1 = some .int) := by
  intro r hr
  cases hr
  exact ⟨rfl, by decide +kernel⟩
theorem ft_0_7 : zFt 0 7 (fun f => f.2.2.2 = false ∧ parseFieldDescriptor f.2.2.1 = some .int) := by
  intro r hr
  cases hr
  exact ⟨rfl, by decide +kernel⟩
theorem ft_0_8 : zFt 0 8 (fun f => f.2.2.2 = false ∧ parseFieldDescriptor f.2.2.1 = some .int) := by
  intro r hr
  cases hr
  exact ⟨rfl, by decide +kernel⟩
theorem ft_0_9 : zFt 0 9 (fun f => f.2.2.2 = false ∧ parseFieldDescriptor f.2.2.1 = some .int) := by
  intro r hr
  cases hr
  exact ⟨rfl, by decide +kernel⟩
theorem fr_1_0 : zFt 1 0 (fun f => f.1 = RX1 ∧ f.2.2.2 = true ∧ parseFieldDescriptor f.2.2.1 = some (.array .int)) := by
  intro r hr
  cases hr
  exact ⟨rfl, rfl, by decide +kernel⟩
theorem fr_1_1 : zFt 1 1 (fun f => f.1 = RX1 ∧ f.2.2.2 = true ∧ parseFieldDescriptor f.2.2.1 = some (.array .int)) := by
  intro r hr
  cases hr
  exact ⟨rfl, rfl, by decide +kernel⟩
theorem fr_1_2 : zFt 1 2 (fun f => f.1 = RX1 ∧ f.2.2.2 = true ∧ parseFieldDescriptor f.2.2.1 = some (.array .int)) := by
  intro r hr
  cases hr
  exact ⟨rfl, rfl, by decide +kernel⟩
theorem fr_1_3 : zFt 1 3 (fun f => f.1 = RX1 ∧ f.2.2.2 = true ∧ parseFieldDescriptor f.2.2.1 = some (.array .int)) := by
  intro r hr
  cases hr
  exact ⟨rfl, rfl, by decide +kernel⟩
theorem fr_1_4 : zFt 1 4 (fun f => f.1 = RX1 ∧ f.2.2.2 = true ∧ parseFieldDescriptor f.2.2.1 = some (.array .int)) := by
  intro r hr
  cases hr
  exact ⟨rfl, rfl, by decide +kernel⟩
theorem fr_1_5 : zFt 1 5 (fun f => f.1 = RX1 ∧ f.2.2.2 = true ∧ parseFieldDescriptor f.2.2.1 = some (.array .int)) := by
  intro r hr
  cases hr
  exact ⟨rfl, rfl, by decide +kernel⟩
theorem fr_1_6 : zFt 1 6 (fun f => f.1 = RX1 ∧ f.2.2.2 = true ∧ parseFieldDescriptor f.2.2.1 = some (.array .int)) := by
  intro r hr
  cases hr
  exact ⟨rfl, rfl, by decide +kernel⟩
theorem fr_1_7 : zFt 1 7 (fun f => f.1 = RX1 ∧ f.2.2.2 = true ∧ parseFieldDescriptor f.2.2.1 = some (.array .int)) := by
  intro r hr
  cases hr
  exact ⟨rfl, rfl, by decide +kernel⟩
theorem ft_1_8 : zFt 1 8 (fun f => f.2.2.2 = false ∧ parseFieldDescriptor f.2.2.1 = some .int) := by
  intro r hr
  cases hr
  exact ⟨rfl, by decide +kernel⟩
theorem ft_1_9 : zFt 1 9 (fun f => f.2.2.2 = false ∧ parseFieldDescriptor f.2.2.1 = some .int) := by
  intro r hr
  cases hr
  exact ⟨rfl, by decide +kernel⟩
theorem ft_1_10 : zFt 1 10 (fun f => f.2.2.2 = false ∧ parseFieldDescriptor f.2.2.1 = some .int) := by
  intro r hr
  cases hr
  exact ⟨rfl, by decide +kernel⟩
theorem ft_1_11 : zFt 1 11 (fun f => f.2.2.2 = false ∧ parseFieldDescriptor f.2.2.1 = some .int) := by
  intro r hr
  cases hr
  exact ⟨rfl, by decide +kernel⟩
theorem ft_1_12 : zFt 1 12 (fun f => f.2.2.2 = false ∧ parseFieldDescriptor f.2.2.1 = some .int) := by
  intro r hr
  cases hr
  exact ⟨rfl, by decide +kernel⟩
theorem ft_1_13 : zFt 1 13 (fun f => f.2.2.2 = false ∧ parseFieldDescriptor f.2.2.1 = some .int) := by
  intro r hr
  cases hr
  exact ⟨rfl, by decide +kernel⟩
theorem fr_2_0 : zFt 2 0 (fun f => f.1 = RX2 ∧ f.2.2.2 = true ∧ parseFieldDescriptor f.2.2.1 = some (.array .int)) := by
  intro r hr
  cases hr
  exact ⟨rfl, rfl, by decide +kernel⟩
theorem fr_2_1 : zFt 2 1 (fun f => f.1 = RX2 ∧ f.2.2.2 = true ∧ parseFieldDescriptor f.2.2.1 = some (.array .int)) := by
  intro r hr
  cases hr
  exact ⟨rfl, rfl, by decide +kernel⟩
theorem fr_2_2 : zFt 2 2 (fun f => f.1 = RX2 ∧ f.2.2.2 = true ∧ parseFieldDescriptor f.2.2.1 = some (.array (.array .int))) := by
  intro r hr
  cases hr
  exact ⟨rfl, rfl, by decide +kernel⟩
theorem fr_3_0 : zFt 3 0 (fun f => f.1 = RX3 ∧ f.2.2.2 = true ∧ parseFieldDescriptor f.2.2.1 = some (.object "HedgeTreaties$Street")) := by
  intro r hr
  cases hr
  exact ⟨rfl, rfl, by decide +kernel⟩
theorem fr_3_1 : zFt 3 1 (fun f => f.1 = RX3 ∧ f.2.2.2 = true ∧ parseFieldDescriptor f.2.2.1 = some (.object "HedgeTreaties$Street")) := by
  intro r hr
  cases hr
  exact ⟨rfl, rfl, by decide +kernel⟩
theorem fr_3_2 : zFt 3 2 (fun f => f.1 = RX3 ∧ f.2.2.2 = true ∧ parseFieldDescriptor f.2.2.1 = some (.array (.object RX1))) := by
  intro r hr
  cases hr
  exact ⟨rfl, rfl, by decide +kernel⟩
theorem fr_3_3 : zFt 3 3 (fun f => f.1 = RX3 ∧ f.2.2.2 = true ∧ parseFieldDescriptor f.2.2.1 = some (.object "HedgeTreaties$Surveyor")) := by
  intro r hr
  cases hr
  exact ⟨rfl, rfl, by decide +kernel⟩
theorem fr_3_4 : zFt 3 4 (fun f => f.1 = RX3 ∧ f.2.2.2 = true ∧ parseFieldDescriptor f.2.2.1 = some (.object "HedgeTreaties$Pad")) := by
  intro r hr
  cases hr
  exact ⟨rfl, rfl, by decide +kernel⟩
theorem ft_3_5 : zFt 3 5 (fun f => f.2.2.2 = false ∧ parseFieldDescriptor f.2.2.1 = some .int) := by
  intro r hr
  cases hr
  exact ⟨rfl, by decide +kernel⟩
theorem ft_3_6 : zFt 3 6 (fun f => f.2.2.2 = false ∧ parseFieldDescriptor f.2.2.1 = some .boolean) := by
  intro r hr
  cases hr
  exact ⟨rfl, by decide +kernel⟩
theorem ft_3_7 : zFt 3 7 (fun f => f.2.2.2 = false ∧ parseFieldDescriptor f.2.2.1 = some .int) := by
  intro r hr
  cases hr
  exact ⟨rfl, by decide +kernel⟩
theorem ft_3_8 : zFt 3 8 (fun f => f.2.2.2 = false ∧ parseFieldDescriptor f.2.2.1 = some .int) := by
  intro r hr
  cases hr
  exact ⟨rfl, by decide +kernel⟩
theorem ft_3_9 : zFt 3 9 (fun f => f.2.2.2 = false ∧ parseFieldDescriptor f.2.2.1 = some .int) := by
  intro r hr
  cases hr
  exact ⟨rfl, by decide +kernel⟩
theorem fr_4_0 : zFt 4 0 (fun f => f.1 = RX4 ∧ f.2.2.2 = true ∧ parseFieldDescriptor f.2.2.1 = some (.array .int)) := by
  intro r hr
  cases hr
  exact ⟨rfl, rfl, by decide +kernel⟩
theorem fr_4_1 : zFt 4 1 (fun f => f.1 = RX4 ∧ f.2.2.2 = true ∧ parseFieldDescriptor f.2.2.1 = some (.array .int)) := by
  intro r hr
  cases hr
  exact ⟨rfl, rfl, by decide +kernel⟩
theorem fr_4_2 : zFt 4 2 (fun f => f.1 = RX4 ∧ f.2.2.2 = true ∧ parseFieldDescriptor f.2.2.1 = some (.array .int)) := by
  intro r hr
  cases hr
  exact ⟨rfl, rfl, by decide +kernel⟩
theorem ft_4_3 : zFt 4 3 (fun f => f.2.2.2 = false ∧ parseFieldDescriptor f.2.2.1 = some .int) := by
  intro r hr
  cases hr
  exact ⟨rfl, by decide +kernel⟩
theorem fr_4_4 : zFt 4 4 (fun f => f.1 = RX4 ∧ f.2.2.2 = true ∧ parseFieldDescriptor f.2.2.1 = some (.array .int)) := by
  intro r hr
  cases hr
  exact ⟨rfl, rfl, by decide +kernel⟩
theorem ft_4_5 : zFt 4 5 (fun f => f.2.2.2 = false ∧ parseFieldDescriptor f.2.2.1 = some .boolean) := by
  intro r hr
  cases hr
  exact ⟨rfl, by decide +kernel⟩
theorem fr_4_6 : zFt 4 6 (fun f => f.1 = RX4 ∧ f.2.2.2 = true ∧ parseFieldDescriptor f.2.2.1 = some (.array .int)) := by
  intro r hr
  cases hr
  exact ⟨rfl, rfl, by decide +kernel⟩
theorem ft_4_7 : zFt 4 7 (fun f => f.2.2.2 = false ∧ parseFieldDescriptor f.2.2.1 = some .int) := by
  intro r hr
  cases hr
  exact ⟨rfl, by decide +kernel⟩
theorem fr_4_8 : zFt 4 8 (fun f => f.1 = RX4 ∧ f.2.2.2 = true ∧ parseFieldDescriptor f.2.2.1 = some (.array .int)) := by
  intro r hr
  cases hr
  exact ⟨rfl, rfl, by decide +kernel⟩
theorem fr_4_9 : zFt 4 9 (fun f => f.1 = RX4 ∧ f.2.2.2 = true ∧ parseFieldDescriptor f.2.2.1 = some (.array .int)) := by
  intro r hr
  cases hr
  exact ⟨rfl, rfl, by decide +kernel⟩
theorem ft_4_10 : zFt 4 10 (fun f => f.2.2.2 = false ∧ parseFieldDescriptor f.2.2.1 = some .int) := by
  intro r hr
  cases hr
  exact ⟨rfl, by decide +kernel⟩
theorem ft_4_11 : zFt 4 11 (fun f => f.2.2.2 = false ∧ parseFieldDescriptor f.2.2.1 = some .boolean) := by
  intro r hr
  cases hr
  exact ⟨rfl, by decide +kernel⟩
theorem ft_4_12 : zFt 4 12 (fun f => f.2.2.2 = false ∧ parseFieldDescriptor f.2.2.1 = some .int) := by
  intro r hr
  cases hr
  exact ⟨rfl, by decide +kernel⟩
theorem ft_4_13 : zFt 4 13 (fun f => f.2.2.2 = false ∧ parseFieldDescriptor f.2.2.1 = some .int) := by
  intro r hr
  cases hr
  exact ⟨rfl, by decide +kernel⟩
theorem ft_4_14 : zFt 4 14 (fun f => f.2.2.2 = false ∧ parseFieldDescriptor f.2.2.1 = some .int) := by
  intro r hr
  cases hr
  exact ⟨rfl, by decide +kernel⟩
theorem ft_4_15 : zFt 4 15 (fun f => f.2.2.2 = false ∧ parseFieldDescriptor f.2.2.1 = some .boolean) := by
  intro r hr
  cases hr
  exact ⟨rfl, by decide +kernel⟩
theorem fr_4_16 : zFt 4 16 (fun f => f.1 = RX4 ∧ f.2.2.2 = true ∧ parseFieldDescriptor f.2.2.1 = some (.array .int)) := by
  intro r hr
  cases hr
  exact ⟨rfl, rfl, by decide +kernel⟩
abbrev mX0_init : zD := (RX0, cX0_init, 1, none, "<init>", { frames := 1, cells := 5, slots := 120, locals := 12 })
abbrev mX0_read : zD := (RX0, cX0_read, 3, some .int, "", { frames := 3, cells := 0, slots := 0, locals := 66 })
abbrev mX0_placeBehind : zD := (RX0, cX0_placeBehind, 4, some .int, "", { frames := 2, cells := 0, slots := 0, locals := 43 })
abbrev mX0_isDigit : zD := (RX0, cX0_isDigit, 2, some .boolean, "", { frames := 0, cells := 0, slots := 0, locals := 0 })
abbrev mX0_startPart : zD := (RX0, cX0_startPart, 3, some .int, "", { frames := 1, cells := 0, slots := 0, locals := 21 })
abbrev mX0_takeOther : zD := (RX0, cX0_takeOther, 2, some .int, "", { frames := 1, cells := 0, slots := 0, locals := 21 })
abbrev mX0_takeSign : zD := (RX0, cX0_takeSign, 2, some .int, "", { frames := 1, cells := 0, slots := 0, locals := 22 })
abbrev mX0_startNumber : zD := (RX0, cX0_startNumber, 3, some .int, "", { frames := 0, cells := 0, slots := 0, locals := 0 })
abbrev mX0_takeDigit : zD := (RX0, cX0_takeDigit, 2, some .int, "", { frames := 1, cells := 0, slots := 0, locals := 21 })
abbrev mX1_init : zD := (RX1, cX1_init, 2, none, "<init>", { frames := 1, cells := 8, slots := 88, locals := 12 })
abbrev mX1_copyFrom : zD := (RX1, cX1_copyFrom, 3, none, "", { frames := 0, cells := 0, slots := 0, locals := 0 })
abbrev mX1_isNested : zD := (RX1, cX1_isNested, 2, some .boolean, "", { frames := 0, cells := 0, slots := 0, locals := 0 })
abbrev mX1_countNested : zD := (RX1, cX1_countNested, 3, some .int, "", { frames := 1, cells := 0, slots := 0, locals := 21 })
abbrev mX1_heightAfter : zD := (RX1, cX1_heightAfter, 3, some .int, "", { frames := 1, cells := 0, slots := 0, locals := 21 })
abbrev mX1_heightsAfter : zD := (RX1, cX1_heightsAfter, 4, some .int, "", { frames := 2, cells := 0, slots := 0, locals := 43 })
abbrev mX1_passDay : zD := (RX1, cX1_passDay, 2, none, "", { frames := 2, cells := 0, slots := 0, locals := 43 })
abbrev mX1_cutOff : zD := (RX1, cX1_cutOff, 3, none, "", { frames := 0, cells := 0, slots := 0, locals := 0 })
abbrev mX1_addTreaty : zD := (RX1, cX1_addTreaty, 4, none, "", { frames := 0, cells := 0, slots := 0, locals := 0 })
abbrev mX1_removeTreaty : zD := (RX1, cX1_removeTreaty, 3, none, "", { frames := 0, cells := 0, slots := 0, locals := 0 })
abbrev mX1_isAbout : zD := (RX1, cX1_isAbout, 3, some .boolean, "", { frames := 0, cells := 0, slots := 0, locals := 0 })
abbrev mX1_isInForce : zD := (RX1, cX1_isInForce, 2, some .boolean, "", { frames := 0, cells := 0, slots := 0, locals := 0 })
abbrev mX1_countInForce : zD := (RX1, cX1_countInForce, 4, some .int, "", { frames := 1, cells := 0, slots := 0, locals := 22 })
abbrev mX1_slackAfter : zD := (RX1, cX1_slackAfter, 4, some .int, "", { frames := 2, cells := 0, slots := 0, locals := 43 })
abbrev mX1_isBrokenAfter : zD := (RX1, cX1_isBrokenAfter, 3, some .boolean, "", { frames := 3, cells := 0, slots := 0, locals := 66 })
abbrev mX1_isBroken : zD := (RX1, cX1_isBroken, 2, some .boolean, "", { frames := 4, cells := 0, slots := 0, locals := 88 })
abbrev mX1_countBroken : zD := (RX1, cX1_countBroken, 5, some .int, "", { frames := 4, cells := 0, slots := 0, locals := 88 })
abbrev mX2_init : zD := (RX2, cX2_init, 1, none, "<init>", { frames := 1, cells := 11, slots := 88, locals := 12 })
abbrev mX2_boundByTreaties : zD := (RX2, cX2_boundByTreaties, 7, some .int, "", { frames := 2, cells := 0, slots := 0, locals := 48 })
abbrev mX2_shortenSums : zD := (RX2, cX2_shortenSums, 8, some .boolean, "", { frames := 1, cells := 0, slots := 0, locals := 21 })
abbrev mX2_boundByPairs : zD := (RX2, cX2_boundByPairs, 4, some .int, "", { frames := 3, cells := 0, slots := 0, locals := 69 })
abbrev mX2_findPairs : zD := (RX2, cX2_findPairs, 5, none, "", { frames := 2, cells := 0, slots := 0, locals := 45 })
abbrev mX2_startPairs : zD := (RX2, cX2_startPairs, 5, none, "", { frames := 1, cells := 0, slots := 0, locals := 21 })
abbrev mX2_joinPair : zD := (RX2, cX2_joinPair, 6, none, "", { frames := 0, cells := 0, slots := 0, locals := 0 })
abbrev mX2_findLeastClipping : zD := (RX2, cX2_findLeastClipping, 4, some .boolean, "", { frames := 2, cells := 0, slots := 0, locals := 48 })
abbrev mX2_findLeastClippingByBounds : zD := (RX2, cX2_findLeastClippingByBounds, 5, some .boolean, "", { frames := 3, cells := 0, slots := 0, locals := 69 })
abbrev mX2_isPossibleWith : zD := (RX2, cX2_isPossibleWith, 7, some .boolean, "", { frames := 2, cells := 0, slots := 0, locals := 48 })
abbrev mX2_pressByTreaties : zD := (RX2, cX2_pressByTreaties, 5, some .boolean, "", { frames := 1, cells := 0, slots := 0, locals := 24 })
abbrev mX2_press : zD := (RX2, cX2_press, 5, some .boolean, "", { frames := 0, cells := 0, slots := 0, locals := 0 })
abbrev mX2_areLevelsAboveGround : zD := (RX2, cX2_areLevelsAboveGround, 2, some .boolean, "", { frames := 0, cells := 0, slots := 0, locals := 0 })
abbrev mX3_init : zD := (RX3, cX3_init, 2, none, "<init>", { frames := 2, cells := 73, slots := 837, locals := 33 })
abbrev mX3_height : zD := (RX3, cX3_height, 4, some .int, "", { frames := 2, cells := 0, slots := 0, locals := 42 })
abbrev mX3_growth : zD := (RX3, cX3_growth, 4, some .int, "", { frames := 2, cells := 0, slots := 0, locals := 42 })
abbrev mX3_nest : zD := (RX3, cX3_nest, 4, some .int, "", { frames := 2, cells := 0, slots := 0, locals := 42 })
abbrev mX3_clip : zD := (RX3, cX3_clip, 3, some .int, "", { frames := 2, cells := 0, slots := 0, locals := 42 })
abbrev mX3_plan : zD := (RX3, cX3_plan, 4, some .int, "", { frames := 3, cells := 0, slots := 0, locals := 71 })
abbrev mX3_day : zD := (RX3, cX3_day, 1, some .int, "", { frames := 5, cells := 0, slots := 0, locals := 112 })
abbrev mX3_sign : zD := (RX3, cX3_sign, 5, some .int, "", { frames := 5, cells := 0, slots := 0, locals := 122 })
abbrev mX3_cancel : zD := (RX3, cX3_cancel, 2, some .int, "", { frames := 2, cells := 0, slots := 0, locals := 42 })
abbrev mX3_freeze : zD := (RX3, cX3_freeze, 3, some .int, "", { frames := 5, cells := 0, slots := 0, locals := 109 })
abbrev mX3_thaw : zD := (RX3, cX3_thaw, 3, some .int, "", { frames := 2, cells := 0, slots := 0, locals := 42 })
abbrev mX3_append : zD := (RX3, cX3_append, 2, some .int, "", { frames := 0, cells := 0, slots := 0, locals := 0 })
abbrev mX3_clear : zD := (RX3, cX3_clear, 2, some .int, "", { frames := 0, cells := 0, slots := 0, locals := 0 })
abbrev mX3_fault : zD := (RX3, cX3_fault, 1, some .int, "", { frames := 4, cells := 0, slots := 0, locals := 88 })
abbrev mX3_signAll : zD := (RX3, cX3_signAll, 4, some .int, "", { frames := 6, cells := 0, slots := 0, locals := 147 })
abbrev mX3_why : zD := (RX3, cX3_why, 2, some .int, "", { frames := 0, cells := 0, slots := 0, locals := 0 })
abbrev mX3_hedge : zD := (RX3, cX3_hedge, 3, some .int, "", { frames := 5, cells := 0, slots := 0, locals := 112 })
abbrev mX3_treaty : zD := (RX3, cX3_treaty, 3, some .int, "", { frames := 5, cells := 0, slots := 0, locals := 109 })
abbrev mX3_bound : zD := (RX3, cX3_bound, 5, some .int, "", { frames := 4, cells := 0, slots := 0, locals := 92 })
abbrev mX3_whyNot : zD := (RX3, cX3_whyNot, 4, some .int, "", { frames := 4, cells := 0, slots := 0, locals := 98 })
abbrev mX3_clipping : zD := (RX3, cX3_clipping, 3, some .int, "", { frames := 4, cells := 0, slots := 0, locals := 93 })
abbrev mX3_count : zD := (RX3, cX3_count, 2, some .int, "", { frames := 5, cells := 0, slots := 0, locals := 112 })
abbrev mX3_peace : zD := (RX3, cX3_peace, 2, some .double, "", { frames := 5, cells := 0, slots := 0, locals := 112 })
abbrev mX3_ifDays : zD := (RX3, cX3_ifDays, 3, some .int, "", { frames := 5, cells := 0, slots := 0, locals := 112 })
abbrev mX3_breaksIn : zD := (RX3, cX3_breaksIn, 2, some .int, "", { frames := 5, cells := 0, slots := 0, locals := 112 })
abbrev mX3_tightest : zD := (RX3, cX3_tightest, 6, some .int, "", { frames := 3, cells := 0, slots := 0, locals := 74 })
abbrev mX3_undo : zD := (RX3, cX3_undo, 1, some .int, "", { frames := 1, cells := 0, slots := 0, locals := 22 })
abbrev mX3_save : zD := (RX3, cX3_save, 1, some .int, "", { frames := 1, cells := 0, slots := 0, locals := 22 })
abbrev mX3_restore : zD := (RX3, cX3_restore, 1, some .int, "", { frames := 2, cells := 0, slots := 0, locals := 42 })
abbrev mX3_isHedge : zD := (RX3, cX3_isHedge, 1, some .boolean, "", { frames := 0, cells := 0, slots := 0, locals := 0 })
abbrev mX3_isTreaty : zD := (RX3, cX3_isTreaty, 2, some .boolean, "", { frames := 0, cells := 0, slots := 0, locals := 0 })
abbrev mX3_isAgreement : zD := (RX3, cX3_isAgreement, 3, some .boolean, "", { frames := 1, cells := 0, slots := 0, locals := 20 })
abbrev mX3_sum : zD := (RX3, cX3_sum, 6, some .int, "", { frames := 0, cells := 0, slots := 0, locals := 0 })
abbrev mX3_remember : zD := (RX3, cX3_remember, 1, none, "", { frames := 1, cells := 0, slots := 0, locals := 22 })
abbrev mX3_dropOldestState : zD := (RX3, cX3_dropOldestState, 3, none, "", { frames := 0, cells := 0, slots := 0, locals := 0 })
abbrev mX3_refuse : zD := (RX3, cX3_refuse, 2, some .int, "", { frames := 0, cells := 0, slots := 0, locals := 0 })
abbrev mX3_isNestInTheWay : zD := (RX3, cX3_isNestInTheWay, 2, some .boolean, "", { frames := 1, cells := 0, slots := 0, locals := 21 })
abbrev mX3_errorOfSigning : zD := (RX3, cX3_errorOfSigning, 4, some .int, "", { frames := 2, cells := 0, slots := 0, locals := 42 })
abbrev mX3_reasonAgainst : zD := (RX3, cX3_reasonAgainst, 5, some .int, "", { frames := 3, cells := 0, slots := 0, locals := 74 })
abbrev mX3_signOne : zD := (RX3, cX3_signOne, 5, some .int, "", { frames := 4, cells := 0, slots := 0, locals := 98 })
abbrev mX3_signPart : zD := (RX3, cX3_signPart, 6, some .int, "", { frames := 5, cells := 0, slots := 0, locals := 122 })
abbrev mX3_isNothingNewBesideOthers : zD := (RX3, cX3_isNothingNewBesideOthers, 4, some .boolean, "", { frames := 3, cells := 0, slots := 0, locals := 74 })
abbrev mX4_init : zD := (RX4, cX4_init, 2, none, "<init>", { frames := 1, cells := 8, slots := 744, locals := 23 })
abbrev mX4_in : zD := (RX4, cX4_in, 3, some .boolean, "", { frames := 0, cells := 0, slots := 0, locals := 0 })
abbrev mX4_copies : zD := (RX4, cX4_copies, 5, none, "", { frames := 0, cells := 0, slots := 0, locals := 0 })
abbrev mX4_records : zD := (RX4, cX4_records, 2, none, "", { frames := 1, cells := 0, slots := 0, locals := 24 })
abbrev mX4_isHedge : zD := (RX4, cX4_isHedge, 1, some .boolean, "", { frames := 1, cells := 0, slots := 0, locals := 22 })
abbrev mX4_isTreaty : zD := (RX4, cX4_isTreaty, 2, some .boolean, "", { frames := 1, cells := 0, slots := 0, locals := 22 })
abbrev mX4_of : zD := (RX4, cX4_of, 3, some .int, "", { frames := 0, cells := 0, slots := 0, locals := 0 })
abbrev mX4_lays : zD := (RX4, cX4_lays, 4, none, "", { frames := 0, cells := 0, slots := 0, locals := 0 })
abbrev mX4_ofTreaty : zD := (RX4, cX4_ofTreaty, 3, some .int, "", { frames := 0, cells := 0, slots := 0, locals := 0 })
abbrev mX4_laysTreaty : zD := (RX4, cX4_laysTreaty, 4, none, "", { frames := 0, cells := 0, slots := 0, locals := 0 })
abbrev mX4_isNested : zD := (RX4, cX4_isNested, 2, some .boolean, "", { frames := 1, cells := 0, slots := 0, locals := 22 })
abbrev mX4_isForce : zD := (RX4, cX4_isForce, 2, some .boolean, "", { frames := 1, cells := 0, slots := 0, locals := 22 })
abbrev mX4_slackOf : zD := (RX4, cX4_slackOf, 2, some .int, "", { frames := 1, cells := 0, slots := 0, locals := 22 })
abbrev mX4_isBroken : zD := (RX4, cX4_isBroken, 2, some .boolean, "", { frames := 2, cells := 0, slots := 0, locals := 43 })
abbrev mX4_brokenOnes : zD := (RX4, cX4_brokenOnes, 3, some .int, "", { frames := 3, cells := 0, slots := 0, locals := 64 })
abbrev mX4_inForce : zD := (RX4, cX4_inForce, 3, some .int, "", { frames := 2, cells := 0, slots := 0, locals := 43 })
abbrev mX4_lowers : zD := (RX4, cX4_lowers, 5, some .boolean, "", { frames := 0, cells := 0, slots := 0, locals := 0 })
abbrev mX4_areTall : zD := (RX4, cX4_areTall, 3, some .boolean, "", { frames := 0, cells := 0, slots := 0, locals := 0 })
abbrev mX4_settles : zD := (RX4, cX4_settles, 5, some .boolean, "", { frames := 2, cells := 0, slots := 0, locals := 43 })
abbrev mX4_isPossible : zD := (RX4, cX4_isPossible, 5, some .boolean, "", { frames := 3, cells := 0, slots := 0, locals := 67 })
abbrev mX4_hasLeast : zD := (RX4, cX4_hasLeast, 2, some .boolean, "", { frames := 3, cells := 0, slots := 0, locals := 67 })
abbrev mX4_boundBut : zD := (RX4, cX4_boundBut, 9, some .int, "", { frames := 2, cells := 0, slots := 0, locals := 43 })
abbrev mX4_reasonToSign : zD := (RX4, cX4_reasonToSign, 4, some .int, "", { frames := 4, cells := 0, slots := 0, locals := 91 })
abbrev mX4_refuses : zD := (RX4, cX4_refuses, 2, some .int, "", { frames := 0, cells := 0, slots := 0, locals := 0 })
abbrev mX4_isPair : zD := (RX4, cX4_isPair, 2, some .boolean, "", { frames := 2, cells := 0, slots := 0, locals := 42 })
abbrev mX4_errorOfSign : zD := (RX4, cX4_errorOfSign, 4, some .int, "", { frames := 3, cells := 0, slots := 0, locals := 63 })
abbrev mX4_goSign : zD := (RX4, cX4_goSign, 6, some .int, "", { frames := 5, cells := 0, slots := 0, locals := 114 })
abbrev mX4_clips : zD := (RX4, cX4_clips, 3, none, "", { frames := 1, cells := 0, slots := 0, locals := 23 })
abbrev mX4_goPlan : zD := (RX4, cX4_goPlan, 4, some .int, "", { frames := 4, cells := 0, slots := 0, locals := 88 })
abbrev mX4_goDay : zD := (RX4, cX4_goDay, 3, none, "", { frames := 1, cells := 0, slots := 0, locals := 23 })
abbrev mX4_height : zD := (RX4, cX4_height, 4, some .int, "", { frames := 2, cells := 0, slots := 0, locals := 45 })
abbrev mX4_growth : zD := (RX4, cX4_growth, 4, some .int, "", { frames := 2, cells := 0, slots := 0, locals := 45 })
abbrev mX4_nest : zD := (RX4, cX4_nest, 4, some .int, "", { frames := 2, cells := 0, slots := 0, locals := 45 })
abbrev mX4_clip : zD := (RX4, cX4_clip, 3, some .int, "", { frames := 2, cells := 0, slots := 0, locals := 45 })
abbrev mX4_plan : zD := (RX4, cX4_plan, 1, some .int, "", { frames := 5, cells := 0, slots := 0, locals := 111 })
abbrev mX4_day : zD := (RX4, cX4_day, 1, some .int, "", { frames := 4, cells := 0, slots := 0, locals := 86 })
abbrev mX4_sign : zD := (RX4, cX4_sign, 5, some .int, "", { frames := 6, cells := 0, slots := 0, locals := 139 })
abbrev mX4_cancel : zD := (RX4, cX4_cancel, 3, some .int, "", { frames := 2, cells := 0, slots := 0, locals := 45 })
abbrev mX4_freeze : zD := (RX4, cX4_freeze, 3, some .int, "", { frames := 3, cells := 0, slots := 0, locals := 64 })
abbrev mX4_thaw : zD := (RX4, cX4_thaw, 3, some .int, "", { frames := 2, cells := 0, slots := 0, locals := 45 })
abbrev mX4_append : zD := (RX4, cX4_append, 2, some .int, "", { frames := 1, cells := 0, slots := 0, locals := 22 })
abbrev mX4_clear : zD := (RX4, cX4_clear, 2, some .int, "", { frames := 0, cells := 0, slots := 0, locals := 0 })
abbrev mX4_here : zD := (RX4, cX4_here, 1, some .int, "", { frames := 0, cells := 0, slots := 0, locals := 0 })
abbrev mX4_takes : zD := (RX4, cX4_takes, 2, none, "", { frames := 0, cells := 0, slots := 0, locals := 0 })
abbrev mX4_takesDigit : zD := (RX4, cX4_takesDigit, 4, some .int, "", { frames := 1, cells := 0, slots := 0, locals := 22 })
abbrev mX4_takesNumber : zD := (RX4, cX4_takesNumber, 5, some .int, "", { frames := 2, cells := 0, slots := 0, locals := 45 })
abbrev mX4_takesPart : zD := (RX4, cX4_takesPart, 2, none, "", { frames := 3, cells := 0, slots := 0, locals := 69 })
abbrev mX4_isText : zD := (RX4, cX4_isText, 1, some .boolean, "", { frames := 4, cells := 0, slots := 0, locals := 90 })
abbrev mX4_fault : zD := (RX4, cX4_fault, 1, some .int, "", { frames := 5, cells := 0, slots := 0, locals := 110 })
abbrev mX4_signAll : zD := (RX4, cX4_signAll, 4, some .int, "", { frames := 6, cells := 0, slots := 0, locals := 139 })
abbrev mX4_why : zD := (RX4, cX4_why, 2, some .int, "", { frames := 1, cells := 0, slots := 0, locals := 22 })
abbrev mX4_isAbout : zD := (RX4, cX4_isAbout, 3, some .boolean, "", { frames := 1, cells := 0, slots := 0, locals := 22 })
abbrev mX4_brokenAbout : zD := (RX4, cX4_brokenAbout, 4, some .int, "", { frames := 3, cells := 0, slots := 0, locals := 64 })
abbrev mX4_forceAbout : zD := (RX4, cX4_forceAbout, 4, some .int, "", { frames := 2, cells := 0, slots := 0, locals := 44 })
abbrev mX4_hedge : zD := (RX4, cX4_hedge, 3, some .int, "", { frames := 4, cells := 0, slots := 0, locals := 88 })
abbrev mX4_saysNothing : zD := (RX4, cX4_saysNothing, 2, some .boolean, "", { frames := 3, cells := 0, slots := 0, locals := 71 })
abbrev mX4_treaty : zD := (RX4, cX4_treaty, 3, some .int, "", { frames := 4, cells := 0, slots := 0, locals := 92 })
abbrev mX4_boundOf : zD := (RX4, cX4_boundOf, 4, some .int, "", { frames := 3, cells := 0, slots := 0, locals := 71 })
abbrev mX4_bound : zD := (RX4, cX4_bound, 4, some .int, "", { frames := 4, cells := 0, slots := 0, locals := 94 })
abbrev mX4_whyNot : zD := (RX4, cX4_whyNot, 4, some .int, "", { frames := 5, cells := 0, slots := 0, locals := 114 })
abbrev mX4_clippingNow : zD := (RX4, cX4_clippingNow, 3, some .int, "", { frames := 4, cells := 0, slots := 0, locals := 88 })
abbrev mX4_clipping : zD := (RX4, cX4_clipping, 2, some .int, "", { frames := 5, cells := 0, slots := 0, locals := 110 })
abbrev mX4_allHeights : zD := (RX4, cX4_allHeights, 3, some .int, "", { frames := 1, cells := 0, slots := 0, locals := 22 })
abbrev mX4_nested : zD := (RX4, cX4_nested, 3, some .int, "", { frames := 2, cells := 0, slots := 0, locals := 43 })
abbrev mX4_count : zD := (RX4, cX4_count, 2, some .int, "", { frames := 4, cells := 0, slots := 0, locals := 86 })
abbrev mX4_peace : zD := (RX4, cX4_peace, 1, some .double, "", { frames := 4, cells := 0, slots := 0, locals := 86 })
abbrev mX4_ifDays : zD := (RX4, cX4_ifDays, 4, some .int, "", { frames := 4, cells := 0, slots := 0, locals := 86 })
abbrev mX4_breaksIn : zD := (RX4, cX4_breaksIn, 3, some .int, "", { frames := 4, cells := 0, slots := 0, locals := 86 })
abbrev mX4_tightest : zD := (RX4, cX4_tightest, 5, some .int, "", { frames := 4, cells := 0, slots := 0, locals := 91 })
abbrev mX4_undo : zD := (RX4, cX4_undo, 1, some .int, "", { frames := 1, cells := 0, slots := 0, locals := 24 })
abbrev mX4_save : zD := (RX4, cX4_save, 1, some .int, "", { frames := 1, cells := 0, slots := 0, locals := 24 })
abbrev mX4_restore : zD := (RX4, cX4_restore, 1, some .int, "", { frames := 2, cells := 0, slots := 0, locals := 45 })
abbrev mL_law : zD := (RL, cL_law, 8, ret, "", room_1)
theorem qL_9 : zY RL 9 yX3_init mX3_init 0 := ⟨lw_in 71 (by decide +kernel) (by decide +kernel), lw_in 63 (by decide +kernel) (by decide +kernel), lw_in 73 (by decide +kernel) (by decide +kernel), by decide +kernel⟩
theorem kX3_init : yX3_init.name = "<init>" ∧ Cond.instanceMethod yX3_init ∈ lw_ok := ⟨rfl, lw_in 72 (by decide +kernel) (by decide +kernel)⟩
theorem qL_12 : zY RL 12 yX4_init mX4_init 0 := ⟨lw_in 557 (by decide +kernel) (by decide +kernel), lw_in 67 (by decide +kernel) (by decide +kernel), lw_in 559 (by decide +kernel) (by decide +kernel), by decide +kernel⟩
theorem kX4_init : yX4_init.name = "<init>" ∧ Cond.instanceMethod yX4_init ∈ lw_ok := ⟨rfl, lw_in 558 (by decide +kernel) (by decide +kernel)⟩
theorem qL_13 : zY RL 13 yX3_height mX3_height 2 := ⟨lw_in 241 (by decide +kernel) (by decide +kernel), lw_in 63 (by decide +kernel) (by decide +kernel), lw_in 244 (by decide +kernel) (by decide +kernel), by decide +kernel⟩
theorem kX3_height : Cond.instanceMethod yX3_height ∈ lw_ok ∧ Cond.selects yX3_height.cls yX3_height yX3_height ∈ lw_ok := ⟨lw_in 242 (by decide +kernel) (by decide +kernel), lw_in 243 (by decide +kernel) (by decide +kernel)⟩
theorem qL_17 : zY RL 17 yX4_height mX4_height 2 := ⟨lw_in 617 (by decide +kernel) (by decide +kernel), lw_in 67 (by decide +kernel) (by decide +kernel), lw_in 620 (by decide +kernel) (by decide +kernel), by decide +kernel⟩
theorem kX4_height : Cond.instanceMethod yX4_height ∈ lw_ok ∧ Cond.selects yX4_height.cls yX4_height yX4_height ∈ lw_ok := ⟨lw_in 618 (by decide +kernel) (by decide +kernel), lw_in 619 (by decide +kernel) (by decide +kernel)⟩
theorem qL_18 : zY RL 18 yX3_growth mX3_growth 2 := ⟨lw_in 260 (by decide +kernel) (by decide +kernel), lw_in 63 (by decide +kernel) (by decide +kernel), lw_in 263 (by decide +kernel) (by decide +kernel), by decide +kernel⟩
theorem kX3_growth : Cond.instanceMethod yX3_growth ∈ lw_ok ∧ Cond.selects yX3_growth.cls yX3_growth yX3_growth ∈ lw_ok := ⟨lw_in 261 (by decide +kernel) (by decide +kernel), lw_in 262 (by decide +kernel) (by decide +kernel)⟩
theorem qL_21 : zY RL 21 yX4_growth mX4_growth 2 := ⟨lw_in 638 (by decide +kernel) (by decide +kernel), lw_in 67 (by decide +kernel) (by decide +kernel), lw_in 641 (by decide +kernel) (by decide +kernel), by decide +kernel⟩
theorem kX4_growth : Cond.instanceMethod yX4_growth ∈ lw_ok ∧ Cond.selects yX4_growth.cls yX4_growth yX4_growth ∈ lw_ok := ⟨lw_in 639 (by decide +kernel) (by decide +kernel), lw_in 640 (by decide +kernel) (by decide +kernel)⟩
theorem qL_22 : zY RL 22 yX3_nest mX3_nest 2 := ⟨lw_in 264 (by decide +kernel) (by decide +kernel), lw_in 63 (by decide +kernel) (by decide +kernel), lw_in 267 (by decide +kernel) (by decide +kernel), by decide +kernel⟩
theorem kX3_nest : Cond.instanceMethod yX3_nest ∈ lw_ok ∧ Cond.selects yX3_nest.cls yX3_nest yX3_nest ∈ lw_ok := ⟨lw_in 265 (by decide +kernel) (by decide +kernel), lw_in 266 (by decide +kernel) (by decide +kernel)⟩
theorem qL_25 : zY RL 25 yX4_nest mX4_nest 2 := ⟨lw_in 642 (by decide +kernel) (by decide +kernel), lw_in 67 (by decide +kernel) (by decide +kernel), lw_in 645 (by decide +kernel) (by decide +kernel), by decide +kernel⟩
theorem kX4_nest : Cond.instanceMethod yX4_nest ∈ lw_ok ∧ Cond.selects yX4_nest.cls yX4_nest yX4_nest ∈ lw_ok := ⟨lw_in 643 (by decide +kernel) (by decide +kernel), lw_in 644 (by decide +kernel) (by decide +kernel)⟩
theorem qL_26 : zY RL 26 yX3_clip mX3_clip 2 := ⟨lw_in 268 (by decide +kernel) (by decide +kernel), lw_in 63 (by decide +kernel) (by decide +kernel), lw_in 271 (by decide +kernel) (by decide +kernel), by decide +kernel⟩
theorem kX3_clip : Cond.instanceMethod yX3_clip ∈ lw_ok ∧ Cond.selects yX3_clip.cls yX3_clip yX3_clip ∈ lw_ok := ⟨lw_in 269 (by decide +kernel) (by decide +kernel), lw_in 270 (by decide +kernel) (by decide +kernel)⟩
theorem qL_29 : zY RL 29 yX4_clip mX4_clip 2 := ⟨lw_in 646 (by decide +kernel) (by decide +kernel), lw_in 67 (by decide +kernel) (by decide +kernel), lw_in 649 (by decide +kernel) (by decide +kernel), by decide +kernel⟩
theorem kX4_clip : Cond.instanceMethod yX4_clip ∈ lw_ok ∧ Cond.selects yX4_clip.cls yX4_clip yX4_clip ∈ lw_ok := ⟨lw_in 647 (by decide +kernel) (by decide +kernel), lw_in 648 (by decide +kernel) (by decide +kernel)⟩
theorem qL_30 : zY RL 30 yX3_plan mX3_plan 0 := ⟨lw_in 284 (by decide +kernel) (by decide +kernel), lw_in 63 (by decide +kernel) (by decide +kernel), lw_in 287 (by decide +kernel) (by decide +kernel), by decide +kernel⟩
theorem kX3_plan : Cond.instanceMethod yX3_plan ∈ lw_ok ∧ Cond.selects yX3_plan.cls yX3_plan yX3_plan ∈ lw_ok := ⟨lw_in 285 (by decide +kernel) (by decide +kernel), lw_in 286 (by decide +kernel) (by decide +kernel)⟩
theorem qL_34 : zY RL 34 yX4_plan mX4_plan 0 := ⟨lw_in 662 (by decide +kernel) (by decide +kernel), lw_in 67 (by decide +kernel) (by decide +kernel), lw_in 665 (by decide +kernel) (by decide +kernel), by decide +kernel⟩
theorem kX4_plan : Cond.instanceMethod yX4_plan ∈ lw_ok ∧ Cond.selects yX4_plan.cls yX4_plan yX4_plan ∈ lw_ok := ⟨lw_in 663 (by decide +kernel) (by decide +kernel), lw_in 664 (by decide +kernel) (by decide +kernel)⟩
theorem qL_35 : zY RL 35 yX3_day mX3_day 0 := ⟨lw_in 312 (by decide +kernel) (by decide +kernel), lw_in 63 (by decide +kernel) (by decide +kernel), lw_in 315 (by decide +kernel) (by decide +kernel), by decide +kernel⟩
theorem kX3_day : Cond.instanceMethod yX3_day ∈ lw_ok ∧ Cond.selects yX3_day.cls yX3_day yX3_day ∈ lw_ok := ⟨lw_in 313 (by decide +kernel) (by decide +kernel), lw_in 314 (by decide +kernel) (by decide +kernel)⟩
theorem qL_38 : zY RL 38 yX4_day mX4_day 0 := ⟨lw_in 694 (by decide +kernel) (by decide +kernel), lw_in 67 (by decide +kernel) (by decide +kernel), lw_in 697 (by decide +kernel) (by decide +kernel), by decide +kernel⟩
theorem kX4_day : Cond.instanceMethod yX4_day ∈ lw_ok ∧ Cond.selects yX4_day.cls yX4_day yX4_day ∈ lw_ok := ⟨lw_in 695 (by decide +kernel) (by decide +kernel), lw_in 696 (by decide +kernel) (by decide +kernel)⟩
theorem qL_39 : zY RL 39 yX3_sign mX3_sign 3 := ⟨lw_in 343 (by decide +kernel) (by decide +kernel), lw_in 63 (by decide +kernel) (by decide +kernel), lw_in 346 (by decide +kernel) (by decide +kernel), by decide +kernel⟩
theorem kX3_sign : Cond.instanceMethod yX3_sign ∈ lw_ok ∧ Cond.selects yX3_sign.cls yX3_sign yX3_sign ∈ lw_ok := ⟨lw_in 344 (by decide +kernel) (by decide +kernel), lw_in 345 (by decide +kernel) (by decide +kernel)⟩
theorem qL_43 : zY RL 43 yX4_sign mX4_sign 3 := ⟨lw_in 714 (by decide +kernel) (by decide +kernel), lw_in 67 (by decide +kernel) (by decide +kernel), lw_in 717 (by decide +kernel) (by decide +kernel), by decide +kernel⟩
theorem kX4_sign : Cond.instanceMethod yX4_sign ∈ lw_ok ∧ Cond.selects yX4_sign.cls yX4_sign yX4_sign ∈ lw_ok := ⟨lw_in 715 (by decide +kernel) (by decide +kernel), lw_in 716 (by decide +kernel) (by decide +kernel)⟩
theorem qL_44 : zY RL 44 yX3_cancel mX3_cancel 1 := ⟨lw_in 379 (by decide +kernel) (by decide +kernel), lw_in 63 (by decide +kernel) (by decide +kernel), lw_in 382 (by decide +kernel) (by decide +kernel), by decide +kernel⟩
theorem kX3_cancel : Cond.instanceMethod yX3_cancel ∈ lw_ok ∧ Cond.selects yX3_cancel.cls yX3_cancel yX3_cancel ∈ lw_ok := ⟨lw_in 380 (by decide +kernel) (by decide +kernel), lw_in 381 (by decide +kernel) (by decide +kernel)⟩
theorem qL_48 : zY RL 48 yX4_cancel mX4_cancel 1 := ⟨lw_in 746 (by decide +kernel) (by decide +kernel), lw_in 67 (by decide +kernel) (by decide +kernel), lw_in 749 (by decide +kernel) (by decide +kernel), by decide +kernel⟩
theorem kX4_cancel : Cond.instanceMethod yX4_cancel ∈ lw_ok ∧ Cond.selects yX4_cancel.cls yX4_cancel yX4_cancel ∈ lw_ok := ⟨lw_in 747 (by decide +kernel) (by decide +kernel), lw_in 748 (by decide +kernel) (by decide +kernel)⟩
theorem qL_49 : zY RL 49 yX3_freeze mX3_freeze 2 := ⟨lw_in 391 (by decide +kernel) (by decide +kernel), lw_in 63 (by decide +kernel) (by decide +kernel), lw_in 394 (by decide +kernel) (by decide +kernel), by decide +kernel⟩
theorem kX3_freeze : Cond.instanceMethod yX3_freeze ∈ lw_ok ∧ Cond.selects yX3_freeze.cls yX3_freeze yX3_freeze ∈ lw_ok := ⟨lw_in 392 (by decide +kernel) (by decide +kernel), lw_in 393 (by decide +kernel) (by decide +kernel)⟩
theorem qL_52 : zY RL 52 yX4_freeze mX4_freeze 2 := ⟨lw_in 754 (by decide +kernel) (by decide +kernel), lw_in 67 (by decide +kernel) (by decide +kernel), lw_in 757 (by decide +kernel) (by decide +kernel), by decide +kernel⟩
theorem kX4_freeze : Cond.instanceMethod yX4_freeze ∈ lw_ok ∧ Cond.selects yX4_freeze.cls yX4_freeze yX4_freeze ∈ lw_ok := ⟨lw_in 755 (by decide +kernel) (by decide +kernel), lw_in 756 (by decide +kernel) (by decide +kernel)⟩
theorem qL_53 : zY RL 53 yX3_thaw mX3_thaw 1 := ⟨lw_in 399 (by decide +kernel) (by decide +kernel), lw_in 63 (by decide +kernel) (by decide +kernel), lw_in 402 (by decide +kernel) (by decide +kernel), by decide +kernel⟩
theorem kX3_thaw : Cond.instanceMethod yX3_thaw ∈ lw_ok ∧ Cond.selects yX3_thaw.cls yX3_thaw yX3_thaw ∈ lw_ok := ⟨lw_in 400 (by decide +kernel) (by decide +kernel), lw_in 401 (by decide +kernel) (by decide +kernel)⟩
theorem qL_56 : zY RL 56 yX4_thaw mX4_thaw 1 := ⟨lw_in 758 (by decide +kernel) (by decide +kernel), lw_in 67 (by decide +kernel) (by decide +kernel), lw_in 761 (by decide +kernel) (by decide +kernel), by decide +kernel⟩
theorem kX4_thaw : Cond.instanceMethod yX4_thaw ∈ lw_ok ∧ Cond.selects yX4_thaw.cls yX4_thaw yX4_thaw ∈ lw_ok := ⟨lw_in 759 (by decide +kernel) (by decide +kernel), lw_in 760 (by decide +kernel) (by decide +kernel)⟩
theorem qL_57 : zY RL 57 yX3_append mX3_append 1 := ⟨lw_in 404 (by decide +kernel) (by decide +kernel), lw_in 63 (by decide +kernel) (by decide +kernel), lw_in 407 (by decide +kernel) (by decide +kernel), by decide +kernel⟩
theorem kX3_append : Cond.instanceMethod yX3_append ∈ lw_ok ∧ Cond.selects yX3_append.cls yX3_append yX3_append ∈ lw_ok := ⟨lw_in 405 (by decide +kernel) (by decide +kernel), lw_in 406 (by decide +kernel) (by decide +kernel)⟩
theorem qL_60 : zY RL 60 yX4_append mX4_append 1 := ⟨lw_in 762 (by decide +kernel) (by decide +kernel), lw_in 67 (by decide +kernel) (by decide +kernel), lw_in 765 (by decide +kernel) (by decide +kernel), by decide +kernel⟩
theorem kX4_append : Cond.instanceMethod yX4_append ∈ lw_ok ∧ Cond.selects yX4_append.cls yX4_append yX4_append ∈ lw_ok := ⟨lw_in 763 (by decide +kernel) (by decide +kernel), lw_in 764 (by decide +kernel) (by decide +kernel)⟩
theorem qL_61 : zY RL 61 yX3_clear mX3_clear 0 := ⟨lw_in 408 (by decide +kernel) (by decide +kernel), lw_in 63 (by decide +kernel) (by decide +kernel), lw_in 411 (by decide +kernel) (by decide +kernel), by decide +kernel⟩
theorem kX3_clear : Cond.instanceMethod yX3_clear ∈ lw_ok ∧ Cond.selects yX3_clear.cls yX3_clear yX3_clear ∈ lw_ok := ⟨lw_in 409 (by decide +kernel) (by decide +kernel), lw_in 410 (by decide +kernel) (by decide +kernel)⟩
theorem qL_64 : zY RL 64 yX4_clear mX4_clear 0 := ⟨lw_in 766 (by decide +kernel) (by decide +kernel), lw_in 67 (by decide +kernel) (by decide +kernel), lw_in 769 (by decide +kernel) (by decide +kernel), by decide +kernel⟩
theorem kX4_clear : Cond.instanceMethod yX4_clear ∈ lw_ok ∧ Cond.selects yX4_clear.cls yX4_clear yX4_clear ∈ lw_ok := ⟨lw_in 767 (by decide +kernel) (by decide +kernel), lw_in 768 (by decide +kernel) (by decide +kernel)⟩
theorem qL_65 : zY RL 65 yX3_fault mX3_fault 0 := ⟨lw_in 412 (by decide +kernel) (by decide +kernel), lw_in 63 (by decide +kernel) (by decide +kernel), lw_in 415 (by decide +kernel) (by decide +kernel), by decide +kernel⟩
theorem kX3_fault : Cond.instanceMethod yX3_fault ∈ lw_ok ∧ Cond.selects yX3_fault.cls yX3_fault yX3_fault ∈ lw_ok := ⟨lw_in 413 (by decide +kernel) (by decide +kernel), lw_in 414 (by decide +kernel) (by decide +kernel)⟩
theorem qL_68 : zY RL 68 yX4_fault mX4_fault 0 := ⟨lw_in 770 (by decide +kernel) (by decide +kernel), lw_in 67 (by decide +kernel) (by decide +kernel), lw_in 773 (by decide +kernel) (by decide +kernel), by decide +kernel⟩
theorem kX4_fault : Cond.instanceMethod yX4_fault ∈ lw_ok ∧ Cond.selects yX4_fault.cls yX4_fault yX4_fault ∈ lw_ok := ⟨lw_in 771 (by decide +kernel) (by decide +kernel), lw_in 772 (by decide +kernel) (by decide +kernel)⟩
theorem qL_69 : zY RL 69 yX3_signAll mX3_signAll 0 := ⟨lw_in 447 (by decide +kernel) (by decide +kernel), lw_in 63 (by decide +kernel) (by decide +kernel), lw_in 450 (by decide +kernel) (by decide +kernel), by decide +kernel⟩
theorem kX3_signAll : Cond.instanceMethod yX3_signAll ∈ lw_ok ∧ Cond.selects yX3_signAll.cls yX3_signAll yX3_signAll ∈ lw_ok := ⟨lw_in 448 (by decide +kernel) (by decide +kernel), lw_in 449 (by decide +kernel) (by decide +kernel)⟩
theorem qL_72 : zY RL 72 yX4_signAll mX4_signAll 0 := ⟨lw_in 798 (by decide +kernel) (by decide +kernel), lw_in 67 (by decide +kernel) (by decide +kernel), lw_in 801 (by decide +kernel) (by decide +kernel), by decide +kernel⟩
theorem kX4_signAll : Cond.instanceMethod yX4_signAll ∈ lw_ok ∧ Cond.selects yX4_signAll.cls yX4_signAll yX4_signAll ∈ lw_ok := ⟨lw_in 799 (by decide +kernel) (by decide +kernel), lw_in 800 (by decide +kernel) (by decide +kernel)⟩
theorem qL_73 : zY RL 73 yX3_why mX3_why 1 := ⟨lw_in 455 (by decide +kernel) (by decide +kernel), lw_in 63 (by decide +kernel) (by decide +kernel), lw_in 458 (by decide +kernel) (by decide +kernel), by decide +kernel⟩
theorem kX3_why : Cond.instanceMethod yX3_why ∈ lw_ok ∧ Cond.selects yX3_why.cls yX3_why yX3_why ∈ lw_ok := ⟨lw_in 456 (by decide +kernel) (by decide +kernel), lw_in 457 (by decide +kernel) (by decide +kernel)⟩
theorem qL_76 : zY RL 76 yX4_why mX4_why 1 := ⟨lw_in 802 (by decide +kernel) (by decide +kernel), lw_in 67 (by decide +kernel) (by decide +kernel), lw_in 805 (by decide +kernel) (by decide +kernel), by decide +kernel⟩
theorem kX4_why : Cond.instanceMethod yX4_why ∈ lw_ok ∧ Cond.selects yX4_why.cls yX4_why yX4_why ∈ lw_ok := ⟨lw_in 803 (by decide +kernel) (by decide +kernel), lw_in 804 (by decide +kernel) (by decide +kernel)⟩
theorem qL_77 : zY RL 77 yX3_hedge mX3_hedge 2 := ⟨lw_in 459 (by decide +kernel) (by decide +kernel), lw_in 63 (by decide +kernel) (by decide +kernel), lw_in 462 (by decide +kernel) (by decide +kernel), by decide +kernel⟩
theorem kX3_hedge : Cond.instanceMethod yX3_hedge ∈ lw_ok ∧ Cond.selects yX3_hedge.cls yX3_hedge yX3_hedge ∈ lw_ok := ⟨lw_in 460 (by decide +kernel) (by decide +kernel), lw_in 461 (by decide +kernel) (by decide +kernel)⟩
theorem qL_80 : zY RL 80 yX4_hedge mX4_hedge 2 := ⟨lw_in 806 (by decide +kernel) (by decide +kernel), lw_in 67 (by decide +kernel) (by decide +kernel), lw_in 809 (by decide +kernel) (by decide +kernel), by decide +kernel⟩
theorem kX4_hedge : Cond.instanceMethod yX4_hedge ∈ lw_ok ∧ Cond.selects yX4_hedge.cls yX4_hedge yX4_hedge ∈ lw_ok := ⟨lw_in 807 (by decide +kernel) (by decide +kernel), lw_in 808 (by decide +kernel) (by decide +kernel)⟩
theorem qL_81 : zY RL 81 yX3_treaty mX3_treaty 2 := ⟨lw_in 468 (by decide +kernel) (by decide +kernel), lw_in 63 (by decide +kernel) (by decide +kernel), lw_in 471 (by decide +kernel) (by decide +kernel), by decide +kernel⟩
theorem kX3_treaty : Cond.instanceMethod yX3_treaty ∈ lw_ok ∧ Cond.selects yX3_treaty.cls yX3_treaty yX3_treaty ∈ lw_ok := ⟨lw_in 469 (by decide +kernel) (by decide +kernel), lw_in 470 (by decide +kernel) (by decide +kernel)⟩
theorem qL_84 : zY RL 84 yX4_treaty mX4_treaty 2 := ⟨lw_in 822 (by decide +kernel) (by decide +kernel), lw_in 67 (by decide +kernel) (by decide +kernel), lw_in 825 (by decide +kernel) (by decide +kernel), by decide +kernel⟩
theorem kX4_treaty : Cond.instanceMethod yX4_treaty ∈ lw_ok ∧ Cond.selects yX4_treaty.cls yX4_treaty yX4_treaty ∈ lw_ok := ⟨lw_in 823 (by decide +kernel) (by decide +kernel), lw_in 824 (by decide +kernel) (by decide +kernel)⟩
theorem qL_85 : zY RL 85 yX3_bound mX3_bound 3 := ⟨lw_in 477 (by decide +kernel) (by decide +kernel), lw_in 63 (by decide +kernel) (by decide +kernel), lw_in 480 (by decide +kernel) (by decide +kernel), by decide +kernel⟩
theorem kX3_bound : Cond.instanceMethod yX3_bound ∈ lw_ok ∧ Cond.selects yX3_bound.cls yX3_bound yX3_bound ∈ lw_ok := ⟨lw_in 478 (by decide +kernel) (by decide +kernel), lw_in 479 (by decide +kernel) (by decide +kernel)⟩
theorem qL_88 : zY RL 88 yX4_bound mX4_bound 3 := ⟨lw_in 830 (by decide +kernel) (by decide +kernel), lw_in 67 (by decide +kernel) (by decide +kernel), lw_in 833 (by decide +kernel) (by decide +kernel), by decide +kernel⟩
theorem kX4_bound : Cond.instanceMethod yX4_bound ∈ lw_ok ∧ Cond.selects yX4_bound.cls yX4_bound yX4_bound ∈ lw_ok := ⟨lw_in 831 (by decide +kernel) (by decide +kernel), lw_in 832 (by decide +kernel) (by decide +kernel)⟩
theorem qL_89 : zY RL 89 yX3_whyNot mX3_whyNot 3 := ⟨lw_in 499 (by decide +kernel) (by decide +kernel), lw_in 63 (by decide +kernel) (by decide +kernel), lw_in 502 (by decide +kernel) (by decide +kernel), by decide +kernel⟩
theorem kX3_whyNot : Cond.instanceMethod yX3_whyNot ∈ lw_ok ∧ Cond.selects yX3_whyNot.cls yX3_whyNot yX3_whyNot ∈ lw_ok := ⟨lw_in 500 (by decide +kernel) (by decide +kernel), lw_in 501 (by decide +kernel) (by decide +kernel)⟩
theorem qL_92 : zY RL 92 yX4_whyNot mX4_whyNot 3 := ⟨lw_in 838 (by decide +kernel) (by decide +kernel), lw_in 67 (by decide +kernel) (by decide +kernel), lw_in 841 (by decide +kernel) (by decide +kernel), by decide +kernel⟩
theorem kX4_whyNot : Cond.instanceMethod yX4_whyNot ∈ lw_ok ∧ Cond.selects yX4_whyNot.cls yX4_whyNot yX4_whyNot ∈ lw_ok := ⟨lw_in 839 (by decide +kernel) (by decide +kernel), lw_in 840 (by decide +kernel) (by decide +kernel)⟩
theorem qL_93 : zY RL 93 yX3_clipping mX3_clipping 1 := ⟨lw_in 503 (by decide +kernel) (by decide +kernel), lw_in 63 (by decide +kernel) (by decide +kernel), lw_in 506 (by decide +kernel) (by decide +kernel), by decide +kernel⟩
theorem kX3_clipping : Cond.instanceMethod yX3_clipping ∈ lw_ok ∧ Cond.selects yX3_clipping.cls yX3_clipping yX3_clipping ∈ lw_ok := ⟨lw_in 504 (by decide +kernel) (by decide +kernel), lw_in 505 (by decide +kernel) (by decide +kernel)⟩
theorem qL_96 : zY RL 96 yX4_clipping mX4_clipping 1 := ⟨lw_in 842 (by decide +kernel) (by decide +kernel), lw_in 67 (by decide +kernel) (by decide +kernel), lw_in 845 (by decide +kernel) (by decide +kernel), by decide +kernel⟩
theorem kX4_clipping : Cond.instanceMethod yX4_clipping ∈ lw_ok ∧ Cond.selects yX4_clipping.cls yX4_clipping yX4_clipping ∈ lw_ok := ⟨lw_in 843 (by decide +kernel) (by decide +kernel), lw_in 844 (by decide +kernel) (by decide +kernel)⟩
theorem qL_97 : zY RL 97 yX3_count mX3_count 1 := ⟨lw_in 514 (by decide +kernel) (by decide +kernel), lw_in 63 (by decide +kernel) (by decide +kernel), lw_in 517 (by decide +kernel) (by decide +kernel), by decide +kernel⟩
theorem kX3_count : Cond.instanceMethod yX3_count ∈ lw_ok ∧ Cond.selects yX3_count.cls yX3_count yX3_count ∈ lw_ok := ⟨lw_in 515 (by decide +kernel) (by decide +kernel), lw_in 516 (by decide +kernel) (by decide +kernel)⟩
theorem qL_100 : zY RL 100 yX4_count mX4_count 1 := ⟨lw_in 850 (by decide +kernel) (by decide +kernel), lw_in 67 (by decide +kernel) (by decide +kernel), lw_in 853 (by decide +kernel) (by decide +kernel), by decide +kernel⟩
theorem kX4_count : Cond.instanceMethod yX4_count ∈ lw_ok ∧ Cond.selects yX4_count.cls yX4_count yX4_count ∈ lw_ok := ⟨lw_in 851 (by decide +kernel) (by decide +kernel), lw_in 852 (by decide +kernel) (by decide +kernel)⟩
theorem qL_101 : zY RL 101 yX3_peace mX3_peace 0 := ⟨lw_in 523 (by decide +kernel) (by decide +kernel), lw_in 63 (by decide +kernel) (by decide +kernel), lw_in 526 (by decide +kernel) (by decide +kernel), by decide +kernel⟩
theorem kX3_peace : Cond.instanceMethod yX3_peace ∈ lw_ok ∧ Cond.selects yX3_peace.cls yX3_peace yX3_peace ∈ lw_ok := ⟨lw_in 524 (by decide +kernel) (by decide +kernel), lw_in 525 (by decide +kernel) (by decide +kernel)⟩
theorem qL_105 : zY RL 105 yX4_peace mX4_peace 0 := ⟨lw_in 866 (by decide +kernel) (by decide +kernel), lw_in 67 (by decide +kernel) (by decide +kernel), lw_in 869 (by decide +kernel) (by decide +kernel), by decide +kernel⟩
theorem kX4_peace : Cond.instanceMethod yX4_peace ∈ lw_ok ∧ Cond.selects yX4_peace.cls yX4_peace yX4_peace ∈ lw_ok := ⟨lw_in 867 (by decide +kernel) (by decide +kernel), lw_in 868 (by decide +kernel) (by decide +kernel)⟩
theorem qL_106 : zY RL 106 yX3_ifDays mX3_ifDays 2 := ⟨lw_in 527 (by decide +kernel) (by decide +kernel), lw_in 63 (by decide +kernel) (by decide +kernel), lw_in 530 (by decide +kernel) (by decide +kernel), by decide +kernel⟩
theorem kX3_ifDays : Cond.instanceMethod yX3_ifDays ∈ lw_ok ∧ Cond.selects yX3_ifDays.cls yX3_ifDays yX3_ifDays ∈ lw_ok := ⟨lw_in 528 (by decide +kernel) (by decide +kernel), lw_in 529 (by decide +kernel) (by decide +kernel)⟩
theorem qL_109 : zY RL 109 yX4_ifDays mX4_ifDays 2 := ⟨lw_in 870 (by decide +kernel) (by decide +kernel), lw_in 67 (by decide +kernel) (by decide +kernel), lw_in 873 (by decide +kernel) (by decide +kernel), by decide +kernel⟩
theorem kX4_ifDays : Cond.instanceMethod yX4_ifDays ∈ lw_ok ∧ Cond.selects yX4_ifDays.cls yX4_ifDays yX4_ifDays ∈ lw_ok := ⟨lw_in 871 (by decide +kernel) (by decide +kernel), lw_in 872 (by decide +kernel) (by decide +kernel)⟩
theorem qL_110 : zY RL 110 yX3_breaksIn mX3_breaksIn 0 := ⟨lw_in 535 (by decide +kernel) (by decide +kernel), lw_in 63 (by decide +kernel) (by decide +kernel), lw_in 538 (by decide +kernel) (by decide +kernel), by decide +kernel⟩
theorem kX3_breaksIn : Cond.instanceMethod yX3_breaksIn ∈ lw_ok ∧ Cond.selects yX3_breaksIn.cls yX3_breaksIn yX3_breaksIn ∈ lw_ok := ⟨lw_in 536 (by decide +kernel) (by decide +kernel), lw_in 537 (by decide +kernel) (by decide +kernel)⟩
theorem qL_113 : zY RL 113 yX4_breaksIn mX4_breaksIn 0 := ⟨lw_in 874 (by decide +kernel) (by decide +kernel), lw_in 67 (by decide +kernel) (by decide +kernel), lw_in 877 (by decide +kernel) (by decide +kernel), by decide +kernel⟩
theorem kX4_breaksIn : Cond.instanceMethod yX4_breaksIn ∈ lw_ok ∧ Cond.selects yX4_breaksIn.cls yX4_breaksIn yX4_breaksIn ∈ lw_ok := ⟨lw_in 875 (by decide +kernel) (by decide +kernel), lw_in 876 (by decide +kernel) (by decide +kernel)⟩
theorem qL_114 : zY RL 114 yX3_tightest mX3_tightest 2 := ⟨lw_in 539 (by decide +kernel) (by decide +kernel), lw_in 63 (by decide +kernel) (by decide +kernel), lw_in 542 (by decide +kernel) (by decide +kernel), by decide +kernel⟩
theorem kX3_tightest : Cond.instanceMethod yX3_tightest ∈ lw_ok ∧ Cond.selects yX3_tightest.cls yX3_tightest yX3_tightest ∈ lw_ok := ⟨lw_in 540 (by decide +kernel) (by decide +kernel), lw_in 541 (by decide +kernel) (by decide +kernel)⟩
theorem qL_117 : zY RL 117 yX4_tightest mX4_tightest 2 := ⟨lw_in 878 (by decide +kernel) (by decide +kernel), lw_in 67 (by decide +kernel) (by decide +kernel), lw_in 881 (by decide +kernel) (by decide +kernel), by decide +kernel⟩
theorem kX4_tightest : Cond.instanceMethod yX4_tightest ∈ lw_ok ∧ Cond.selects yX4_tightest.cls yX4_tightest yX4_tightest ∈ lw_ok := ⟨lw_in 879 (by decide +kernel) (by decide +kernel), lw_in 880 (by decide +kernel) (by decide +kernel)⟩
theorem qL_118 : zY RL 118 yX3_undo mX3_undo 0 := ⟨lw_in 543 (by decide +kernel) (by decide +kernel), lw_in 63 (by decide +kernel) (by decide +kernel), lw_in 546 (by decide +kernel) (by decide +kernel), by decide +kernel⟩
theorem kX3_undo : Cond.instanceMethod yX3_undo ∈ lw_ok ∧ Cond.selects yX3_undo.cls yX3_undo yX3_undo ∈ lw_ok := ⟨lw_in 544 (by decide +kernel) (by decide +kernel), lw_in 545 (by decide +kernel) (by decide +kernel)⟩
theorem qL_121 : zY RL 121 yX4_undo mX4_undo 0 := ⟨lw_in 882 (by decide +kernel) (by decide +kernel), lw_in 67 (by decide +kernel) (by decide +kernel), lw_in 885 (by decide +kernel) (by decide +kernel), by decide +kernel⟩
theorem kX4_undo : Cond.instanceMethod yX4_undo ∈ lw_ok ∧ Cond.selects yX4_undo.cls yX4_undo yX4_undo ∈ lw_ok := ⟨lw_in 883 (by decide +kernel) (by decide +kernel), lw_in 884 (by decide +kernel) (by decide +kernel)⟩
theorem qL_122 : zY RL 122 yX3_save mX3_save 0 := ⟨lw_in 547 (by decide +kernel) (by decide +kernel), lw_in 63 (by decide +kernel) (by decide +kernel), lw_in 550 (by decide +kernel) (by decide +kernel), by decide +kernel⟩
theorem kX3_save : Cond.instanceMethod yX3_save ∈ lw_ok ∧ Cond.selects yX3_save.cls yX3_save yX3_save ∈ lw_ok := ⟨lw_in 548 (by decide +kernel) (by decide +kernel), lw_in 549 (by decide +kernel) (by decide +kernel)⟩
theorem qL_125 : zY RL 125 yX4_save mX4_save 0 := ⟨lw_in 886 (by decide +kernel) (by decide +kernel), lw_in 67 (by decide +kernel) (by decide +kernel), lw_in 889 (by decide +kernel) (by decide +kernel), by decide +kernel⟩
theorem kX4_save : Cond.instanceMethod yX4_save ∈ lw_ok ∧ Cond.selects yX4_save.cls yX4_save yX4_save ∈ lw_ok := ⟨lw_in 887 (by decide +kernel) (by decide +kernel), lw_in 888 (by decide +kernel) (by decide +kernel)⟩
theorem qL_126 : zY RL 126 yX3_restore mX3_restore 0 := ⟨lw_in 551 (by decide +kernel) (by decide +kernel), lw_in 63 (by decide +kernel) (by decide +kernel), lw_in 554 (by decide +kernel) (by decide +kernel), by decide +kernel⟩
theorem kX3_restore : Cond.instanceMethod yX3_restore ∈ lw_ok ∧ Cond.selects yX3_restore.cls yX3_restore yX3_restore ∈ lw_ok := ⟨lw_in 552 (by decide +kernel) (by decide +kernel), lw_in 553 (by decide +kernel) (by decide +kernel)⟩
theorem qL_129 : zY RL 129 yX4_restore mX4_restore 0 := ⟨lw_in 890 (by decide +kernel) (by decide +kernel), lw_in 67 (by decide +kernel) (by decide +kernel), lw_in 893 (by decide +kernel) (by decide +kernel), by decide +kernel⟩
theorem kX4_restore : Cond.instanceMethod yX4_restore ∈ lw_ok ∧ Cond.selects yX4_restore.cls yX4_restore yX4_restore ∈ lw_ok := ⟨lw_in 891 (by decide +kernel) (by decide +kernel), lw_in 892 (by decide +kernel) (by decide +kernel)⟩
theorem qX0_34 : zY RX0 34 yX0_placeBehind mX0_placeBehind 2 := ⟨lw_in 420 (by decide +kernel) (by decide +kernel), lw_in 66 (by decide +kernel) (by decide +kernel), lw_in 423 (by decide +kernel) (by decide +kernel), by decide +kernel⟩
theorem kX0_placeBehind : Cond.instanceMethod yX0_placeBehind ∈ lw_ok ∧ Cond.selects yX0_placeBehind.cls yX0_placeBehind yX0_placeBehind ∈ lw_ok := ⟨lw_in 422 (by decide +kernel) (by decide +kernel), lw_in 12 (by decide +kernel) (by decide +kernel)⟩
theorem qX0_38 : zY RX0 38 yX0_startPart mX0_startPart 1 := ⟨lw_in 424 (by decide +kernel) (by decide +kernel), lw_in 66 (by decide +kernel) (by decide +kernel), lw_in 427 (by decide +kernel) (by decide +kernel), by decide +kernel⟩
theorem kX0_startPart : Cond.instanceMethod yX0_startPart ∈ lw_ok ∧ Cond.selects yX0_startPart.cls yX0_startPart yX0_startPart ∈ lw_ok := ⟨lw_in 426 (by decide +kernel) (by decide +kernel), lw_in 13 (by decide +kernel) (by decide +kernel)⟩
theorem qX0_42 : zY RX0 42 yX0_takeOther mX0_takeOther 1 := ⟨lw_in 431 (by decide +kernel) (by decide +kernel), lw_in 66 (by decide +kernel) (by decide +kernel), lw_in 434 (by decide +kernel) (by decide +kernel), by decide +kernel⟩
theorem kX0_takeOther : Cond.instanceMethod yX0_takeOther ∈ lw_ok ∧ Cond.selects yX0_takeOther.cls yX0_takeOther yX0_takeOther ∈ lw_ok := ⟨lw_in 433 (by decide +kernel) (by decide +kernel), lw_in 14 (by decide +kernel) (by decide +kernel)⟩
theorem qX0_45 : zY RX0 45 yX0_takeSign mX0_takeSign 1 := ⟨lw_in 435 (by decide +kernel) (by decide +kernel), lw_in 66 (by decide +kernel) (by decide +kernel), lw_in 438 (by decide +kernel) (by decide +kernel), by decide +kernel⟩
theorem kX0_takeSign : Cond.instanceMethod yX0_takeSign ∈ lw_ok ∧ Cond.selects yX0_takeSign.cls yX0_takeSign yX0_takeSign ∈ lw_ok := ⟨lw_in 437 (by decide +kernel) (by decide +kernel), lw_in 15 (by decide +kernel) (by decide +kernel)⟩
theorem qX0_48 : zY RX0 48 yX0_takeDigit mX0_takeDigit 1 := ⟨lw_in 443 (by decide +kernel) (by decide +kernel), lw_in 66 (by decide +kernel) (by decide +kernel), lw_in 446 (by decide +kernel) (by decide +kernel), by decide +kernel⟩
theorem kX0_takeDigit : Cond.instanceMethod yX0_takeDigit ∈ lw_ok ∧ Cond.selects yX0_takeDigit.cls yX0_takeDigit yX0_takeDigit ∈ lw_ok := ⟨lw_in 445 (by decide +kernel) (by decide +kernel), lw_in 17 (by decide +kernel) (by decide +kernel)⟩
theorem qX0_51 : zY RX0 51 yX0_isDigit mX0_isDigit 2 := ⟨lw_in 428 (by decide +kernel) (by decide +kernel), lw_in 66 (by decide +kernel) (by decide +kernel), lw_in 430 (by decide +kernel) (by decide +kernel), by decide +kernel⟩
theorem kX0_isDigit : Cond.static yX0_isDigit ∈ lw_ok := lw_in 429 (by decide +kernel) (by decide +kernel)
theorem qX0_55 : zY RX0 55 yX0_startNumber mX0_startNumber 2 := ⟨lw_in 439 (by decide +kernel) (by decide +kernel), lw_in 66 (by decide +kernel) (by decide +kernel), lw_in 442 (by decide +kernel) (by decide +kernel), by decide +kernel⟩
theorem kX0_startNumber : Cond.instanceMethod yX0_startNumber ∈ lw_ok ∧ Cond.selects yX0_startNumber.cls yX0_startNumber yX0_startNumber ∈ lw_ok := ⟨lw_in 441 (by decide +kernel) (by decide +kernel), lw_in 16 (by decide +kernel) (by decide +kernel)⟩
theorem qX1_55 : zY RX1 55 yX1_isNested mX1_isNested 1 := ⟨lw_in 522 (by decide +kernel) (by decide +kernel), lw_in 64 (by decide +kernel) (by decide +kernel), lw_in 275 (by decide +kernel) (by decide +kernel), by decide +kernel⟩
theorem kX1_isNested : Cond.instanceMethod yX1_isNested ∈ lw_ok ∧ Cond.selects yX1_isNested.cls yX1_isNested yX1_isNested ∈ lw_ok := ⟨lw_in 273 (by decide +kernel) (by decide +kernel), lw_in 274 (by decide +kernel) (by decide +kernel)⟩
theorem qX1_65 : zY RX1 65 yX1_heightAfter mX1_heightAfter 2 := ⟨lw_in 320 (by decide +kernel) (by decide +kernel), lw_in 64 (by decide +kernel) (by decide +kernel), lw_in 323 (by decide +kernel) (by decide +kernel), by decide +kernel⟩
theorem kX1_heightAfter : Cond.instanceMethod yX1_heightAfter ∈ lw_ok ∧ Cond.selects yX1_heightAfter.cls yX1_heightAfter yX1_heightAfter ∈ lw_ok := ⟨lw_in 321 (by decide +kernel) (by decide +kernel), lw_in 322 (by decide +kernel) (by decide +kernel)⟩
theorem qX1_68 : zY RX1 68 yX1_isAbout mX1_isAbout 2 := ⟨lw_in 331 (by decide +kernel) (by decide +kernel), lw_in 64 (by decide +kernel) (by decide +kernel), lw_in 334 (by decide +kernel) (by decide +kernel), by decide +kernel⟩
theorem kX1_isAbout : Cond.instanceMethod yX1_isAbout ∈ lw_ok ∧ Cond.selects yX1_isAbout.cls yX1_isAbout yX1_isAbout ∈ lw_ok := ⟨lw_in 332 (by decide +kernel) (by decide +kernel), lw_in 333 (by decide +kernel) (by decide +kernel)⟩
theorem qX1_72 : zY RX1 72 yX1_isInForce mX1_isInForce 1 := ⟨lw_in 467 (by decide +kernel) (by decide +kernel), lw_in 64 (by decide +kernel) (by decide +kernel), lw_in 299 (by decide +kernel) (by decide +kernel), by decide +kernel⟩
theorem kX1_isInForce : Cond.instanceMethod yX1_isInForce ∈ lw_ok ∧ Cond.selects yX1_isInForce.cls yX1_isInForce yX1_isInForce ∈ lw_ok := ⟨lw_in 297 (by decide +kernel) (by decide +kernel), lw_in 298 (by decide +kernel) (by decide +kernel)⟩
theorem qX1_75 : zY RX1 75 yX1_slackAfter mX1_slackAfter 2 := ⟨lw_in 339 (by decide +kernel) (by decide +kernel), lw_in 64 (by decide +kernel) (by decide +kernel), lw_in 342 (by decide +kernel) (by decide +kernel), by decide +kernel⟩
theorem kX1_slackAfter : Cond.instanceMethod yX1_slackAfter ∈ lw_ok ∧ Cond.selects yX1_slackAfter.cls yX1_slackAfter yX1_slackAfter ∈ lw_ok := ⟨lw_in 340 (by decide +kernel) (by decide +kernel), lw_in 341 (by decide +kernel) (by decide +kernel)⟩
theorem qX1_78 : zY RX1 78 yX1_isBrokenAfter mX1_isBrokenAfter 2 := ⟨lw_in 335 (by decide +kernel) (by decide +kernel), lw_in 64 (by decide +kernel) (by decide +kernel), lw_in 338 (by decide +kernel) (by decide +kernel), by decide +kernel⟩
theorem kX1_isBrokenAfter : Cond.instanceMethod yX1_isBrokenAfter ∈ lw_ok ∧ Cond.selects yX1_isBrokenAfter.cls yX1_isBrokenAfter yX1_isBrokenAfter ∈ lw_ok := ⟨lw_in 336 (by decide +kernel) (by decide +kernel), lw_in 337 (by decide +kernel) (by decide +kernel)⟩
theorem qX2_24 : zY RX2 24 yX2_shortenSums mX2_shortenSums 2 := ⟨lw_in 371 (by decide +kernel) (by decide +kernel), lw_in 65 (by decide +kernel) (by decide +kernel), lw_in 374 (by decide +kernel) (by decide +kernel), by decide +kernel⟩
theorem kX2_shortenSums : Cond.instanceMethod yX2_shortenSums ∈ lw_ok ∧ Cond.selects yX2_shortenSums.cls yX2_shortenSums yX2_shortenSums ∈ lw_ok := ⟨lw_in 373 (by decide +kernel) (by decide +kernel), lw_in 10 (by decide +kernel) (by decide +kernel)⟩
theorem qX2_37 : zY RX2 37 yX1_isInForce mX1_isInForce 1 := ⟨lw_in 296 (by decide +kernel) (by decide +kernel), lw_in 64 (by decide +kernel) (by decide +kernel), lw_in 299 (by decide +kernel) (by decide +kernel), by decide +kernel⟩
theorem qX2_47 : zY RX2 47 yX2_findPairs mX2_findPairs 1 := ⟨lw_in 485 (by decide +kernel) (by decide +kernel), lw_in 65 (by decide +kernel) (by decide +kernel), lw_in 488 (by decide +kernel) (by decide +kernel), by decide +kernel⟩
theorem kX2_findPairs : Cond.instanceMethod yX2_findPairs ∈ lw_ok ∧ Cond.selects yX2_findPairs.cls yX2_findPairs yX2_findPairs ∈ lw_ok := ⟨lw_in 487 (by decide +kernel) (by decide +kernel), lw_in 20 (by decide +kernel) (by decide +kernel)⟩
theorem qX2_51 : zY RX2 51 yX2_startPairs mX2_startPairs 1 := ⟨lw_in 489 (by decide +kernel) (by decide +kernel), lw_in 65 (by decide +kernel) (by decide +kernel), lw_in 492 (by decide +kernel) (by decide +kernel), by decide +kernel⟩
theorem kX2_startPairs : Cond.instanceMethod yX2_startPairs ∈ lw_ok ∧ Cond.selects yX2_startPairs.cls yX2_startPairs yX2_startPairs ∈ lw_ok := ⟨lw_in 491 (by decide +kernel) (by decide +kernel), lw_in 21 (by decide +kernel) (by decide +kernel)⟩
theorem qX2_54 : zY RX2 54 yX2_joinPair mX2_joinPair 3 := ⟨lw_in 494 (by decide +kernel) (by decide +kernel), lw_in 65 (by decide +kernel) (by decide +kernel), lw_in 497 (by decide +kernel) (by decide +kernel), by decide +kernel⟩
theorem kX2_joinPair : Cond.instanceMethod yX2_joinPair ∈ lw_ok ∧ Cond.selects yX2_joinPair.cls yX2_joinPair yX2_joinPair ∈ lw_ok := ⟨lw_in 496 (by decide +kernel) (by decide +kernel), lw_in 22 (by decide +kernel) (by decide +kernel)⟩
theorem qX2_67 : zY RX2 67 yX2_pressByTreaties mX2_pressByTreaties 2 := ⟨lw_in 292 (by decide +kernel) (by decide +kernel), lw_in 65 (by decide +kernel) (by decide +kernel), lw_in 295 (by decide +kernel) (by decide +kernel), by decide +kernel⟩
theorem kX2_pressByTreaties : Cond.instanceMethod yX2_pressByTreaties ∈ lw_ok ∧ Cond.selects yX2_pressByTreaties.cls yX2_pressByTreaties yX2_pressByTreaties ∈ lw_ok := ⟨lw_in 294 (by decide +kernel) (by decide +kernel), lw_in 3 (by decide +kernel) (by decide +kernel)⟩
theorem qX2_71 : zY RX2 71 yX2_areLevelsAboveGround mX2_areLevelsAboveGround 0 := ⟨lw_in 304 (by decide +kernel) (by decide +kernel), lw_in 65 (by decide +kernel) (by decide +kernel), lw_in 307 (by decide +kernel) (by decide +kernel), by decide +kernel⟩
theorem kX2_areLevelsAboveGround : Cond.instanceMethod yX2_areLevelsAboveGround ∈ lw_ok ∧ Cond.selects yX2_areLevelsAboveGround.cls yX2_areLevelsAboveGround yX2_areLevelsAboveGround ∈ lw_ok := ⟨lw_in 306 (by decide +kernel) (by decide +kernel), lw_in 5 (by decide +kernel) (by decide +kernel)⟩
theorem qX2_75 : zY RX2 75 yX2_press mX2_press 3 := ⟨lw_in 300 (by decide +kernel) (by decide +kernel), lw_in 65 (by decide +kernel) (by decide +kernel), lw_in 303 (by decide +kernel) (by decide +kernel), by decide +kernel⟩
theorem kX2_press : Cond.instanceMethod yX2_press ∈ lw_ok ∧ Cond.selects yX2_press.cls yX2_press yX2_press ∈ lw_ok := ⟨lw_in 302 (by decide +kernel) (by decide +kernel), lw_in 4 (by decide +kernel) (by decide +kernel)⟩
theorem qX3_9 : zY RX3 9 yX1_init mX1_init 0 := ⟨lw_in 79 (by decide +kernel) (by decide +kernel), lw_in 64 (by decide +kernel) (by decide +kernel), lw_in 81 (by decide +kernel) (by decide +kernel), by decide +kernel⟩
theorem kX1_init : yX1_init.name = "<init>" ∧ Cond.instanceMethod yX1_init ∈ lw_ok := ⟨rfl, lw_in 80 (by decide +kernel) (by decide +kernel)⟩
theorem kX2_init : yX2_init.name = "<init>" ∧ Cond.instanceMethod yX2_init ∈ lw_ok := ⟨rfl, lw_in 150 (by decide +kernel) (by decide +kernel)⟩
theorem kX0_init : yX0_init.name = "<init>" ∧ Cond.instanceMethod yX0_init ∈ lw_ok := ⟨rfl, lw_in 169 (by decide +kernel) (by decide +kernel)⟩
theorem qX3_37 : zY RX3 37 yX3_isHedge mX3_isHedge 1 := ⟨lw_in 245 (by decide +kernel) (by decide +kernel), lw_in 63 (by decide +kernel) (by decide +kernel), lw_in 247 (by decide +kernel) (by decide +kernel), by decide +kernel⟩
theorem kX3_isHedge : Cond.static yX3_isHedge ∈ lw_ok := lw_in 246 (by decide +kernel) (by decide +kernel)
theorem qX3_41 : zY RX3 41 yX3_remember mX3_remember 0 := ⟨lw_in 248 (by decide +kernel) (by decide +kernel), lw_in 63 (by decide +kernel) (by decide +kernel), lw_in 251 (by decide +kernel) (by decide +kernel), by decide +kernel⟩
theorem kX3_remember : Cond.instanceMethod yX3_remember ∈ lw_ok ∧ Cond.selects yX3_remember.cls yX3_remember yX3_remember ∈ lw_ok := ⟨lw_in 250 (by decide +kernel) (by decide +kernel), lw_in 0 (by decide +kernel) (by decide +kernel)⟩
theorem qX3_58 : zY RX3 58 yX1_isNested mX1_isNested 1 := ⟨lw_in 272 (by decide +kernel) (by decide +kernel), lw_in 64 (by decide +kernel) (by decide +kernel), lw_in 275 (by decide +kernel) (by decide +kernel), by decide +kernel⟩
theorem qX3_61 : zY RX3 61 yX3_refuse mX3_refuse 1 := ⟨lw_in 276 (by decide +kernel) (by decide +kernel), lw_in 63 (by decide +kernel) (by decide +kernel), lw_in 279 (by decide +kernel) (by decide +kernel), by decide +kernel⟩
theorem kX3_refuse : Cond.instanceMethod yX3_refuse ∈ lw_ok ∧ Cond.selects yX3_refuse.cls yX3_refuse yX3_refuse ∈ lw_ok := ⟨lw_in 278 (by decide +kernel) (by decide +kernel), lw_in 2 (by decide +kernel) (by decide +kernel)⟩
theorem qX3_65 : zY RX3 65 yX1_cutOff mX1_cutOff 2 := ⟨lw_in 280 (by decide +kernel) (by decide +kernel), lw_in 64 (by decide +kernel) (by decide +kernel), lw_in 283 (by decide +kernel) (by decide +kernel), by decide +kernel⟩
theorem kX1_cutOff : Cond.instanceMethod yX1_cutOff ∈ lw_ok ∧ Cond.selects yX1_cutOff.cls yX1_cutOff yX1_cutOff ∈ lw_ok := ⟨lw_in 281 (by decide +kernel) (by decide +kernel), lw_in 282 (by decide +kernel) (by decide +kernel)⟩
theorem qX3_69 : zY RX3 69 yX2_findLeastClipping mX2_findLeastClipping 1 := ⟨lw_in 288 (by decide +kernel) (by decide +kernel), lw_in 65 (by decide +kernel) (by decide +kernel), lw_in 291 (by decide +kernel) (by decide +kernel), by decide +kernel⟩
theorem kX2_findLeastClipping : Cond.instanceMethod yX2_findLeastClipping ∈ lw_ok ∧ Cond.selects yX2_findLeastClipping.cls yX2_findLeastClipping yX2_findLeastClipping ∈ lw_ok := ⟨lw_in 289 (by decide +kernel) (by decide +kernel), lw_in 290 (by decide +kernel) (by decide +kernel)⟩
theorem qX3_73 : zY RX3 73 yX3_isNestInTheWay mX3_isNestInTheWay 0 := ⟨lw_in 308 (by decide +kernel) (by decide +kernel), lw_in 63 (by decide +kernel) (by decide +kernel), lw_in 311 (by decide +kernel) (by decide +kernel), by decide +kernel⟩
theorem kX3_isNestInTheWay : Cond.instanceMethod yX3_isNestInTheWay ∈ lw_ok ∧ Cond.selects yX3_isNestInTheWay.cls yX3_isNestInTheWay yX3_isNestInTheWay ∈ lw_ok := ⟨lw_in 310 (by decide +kernel) (by decide +kernel), lw_in 6 (by decide +kernel) (by decide +kernel)⟩
theorem qX3_80 : zY RX3 80 yX1_passDay mX1_passDay 0 := ⟨lw_in 316 (by decide +kernel) (by decide +kernel), lw_in 64 (by decide +kernel) (by decide +kernel), lw_in 319 (by decide +kernel) (by decide +kernel), by decide +kernel⟩
theorem kX1_passDay : Cond.instanceMethod yX1_passDay ∈ lw_ok ∧ Cond.selects yX1_passDay.cls yX1_passDay yX1_passDay ∈ lw_ok := ⟨lw_in 317 (by decide +kernel) (by decide +kernel), lw_in 318 (by decide +kernel) (by decide +kernel)⟩
theorem qX3_83 : zY RX3 83 yX1_countBroken mX1_countBroken 2 := ⟨lw_in 327 (by decide +kernel) (by decide +kernel), lw_in 64 (by decide +kernel) (by decide +kernel), lw_in 330 (by decide +kernel) (by decide +kernel), by decide +kernel⟩
theorem kX1_countBroken : Cond.instanceMethod yX1_countBroken ∈ lw_ok ∧ Cond.selects yX1_countBroken.cls yX1_countBroken yX1_countBroken ∈ lw_ok := ⟨lw_in 328 (by decide +kernel) (by decide +kernel), lw_in 329 (by decide +kernel) (by decide +kernel)⟩
theorem qX3_87 : zY RX3 87 yX3_errorOfSigning mX3_errorOfSigning 3 := ⟨lw_in 347 (by decide +kernel) (by decide +kernel), lw_in 63 (by decide +kernel) (by decide +kernel), lw_in 350 (by decide +kernel) (by decide +kernel), by decide +kernel⟩
theorem kX3_errorOfSigning : Cond.instanceMethod yX3_errorOfSigning ∈ lw_ok ∧ Cond.selects yX3_errorOfSigning.cls yX3_errorOfSigning yX3_errorOfSigning ∈ lw_ok := ⟨lw_in 349 (by decide +kernel) (by decide +kernel), lw_in 7 (by decide +kernel) (by decide +kernel)⟩
theorem qX3_91 : zY RX3 91 yX3_signOne mX3_signOne 3 := ⟨lw_in 354 (by decide +kernel) (by decide +kernel), lw_in 63 (by decide +kernel) (by decide +kernel), lw_in 357 (by decide +kernel) (by decide +kernel), by decide +kernel⟩
theorem kX3_signOne : Cond.instanceMethod yX3_signOne ∈ lw_ok ∧ Cond.selects yX3_signOne.cls yX3_signOne yX3_signOne ∈ lw_ok := ⟨lw_in 356 (by decide +kernel) (by decide +kernel), lw_in 8 (by decide +kernel) (by decide +kernel)⟩
theorem qX3_94 : zY RX3 94 yX3_isTreaty mX3_isTreaty 1 := ⟨lw_in 383 (by decide +kernel) (by decide +kernel), lw_in 63 (by decide +kernel) (by decide +kernel), lw_in 386 (by decide +kernel) (by decide +kernel), by decide +kernel⟩
theorem kX3_isTreaty : Cond.instanceMethod yX3_isTreaty ∈ lw_ok ∧ Cond.selects yX3_isTreaty.cls yX3_isTreaty yX3_isTreaty ∈ lw_ok := ⟨lw_in 385 (by decide +kernel) (by decide +kernel), lw_in 11 (by decide +kernel) (by decide +kernel)⟩
theorem qX3_97 : zY RX3 97 yX1_removeTreaty mX1_removeTreaty 1 := ⟨lw_in 387 (by decide +kernel) (by decide +kernel), lw_in 64 (by decide +kernel) (by decide +kernel), lw_in 390 (by decide +kernel) (by decide +kernel), by decide +kernel⟩
theorem kX1_removeTreaty : Cond.instanceMethod yX1_removeTreaty ∈ lw_ok ∧ Cond.selects yX1_removeTreaty.cls yX1_removeTreaty yX1_removeTreaty ∈ lw_ok := ⟨lw_in 388 (by decide +kernel) (by decide +kernel), lw_in 389 (by decide +kernel) (by decide +kernel)⟩
theorem qX3_104 : zY RX3 104 yX1_isBroken mX1_isBroken 1 := ⟨lw_in 395 (by decide +kernel) (by decide +kernel), lw_in 64 (by decide +kernel) (by decide +kernel), lw_in 398 (by decide +kernel) (by decide +kernel), by decide +kernel⟩
theorem kX1_isBroken : Cond.instanceMethod yX1_isBroken ∈ lw_ok ∧ Cond.selects yX1_isBroken.cls yX1_isBroken yX1_isBroken ∈ lw_ok := ⟨lw_in 396 (by decide +kernel) (by decide +kernel), lw_in 397 (by decide +kernel) (by decide +kernel)⟩
theorem qX3_113 : zY RX3 113 yX1_isInForce mX1_isInForce 1 := ⟨lw_in 403 (by decide +kernel) (by decide +kernel), lw_in 64 (by decide +kernel) (by decide +kernel), lw_in 299 (by decide +kernel) (by decide +kernel), by decide +kernel⟩
theorem qX3_122 : zY RX3 122 yX0_read mX0_read 0 := ⟨lw_in 416 (by decide +kernel) (by decide +kernel), lw_in 66 (by decide +kernel) (by decide +kernel), lw_in 419 (by decide +kernel) (by decide +kernel), by decide +kernel⟩
theorem kX0_read : Cond.instanceMethod yX0_read ∈ lw_ok ∧ Cond.selects yX0_read.cls yX0_read yX0_read ∈ lw_ok := ⟨lw_in 417 (by decide +kernel) (by decide +kernel), lw_in 418 (by decide +kernel) (by decide +kernel)⟩
theorem qX3_132 : zY RX3 132 yX3_signPart mX3_signPart 1 := ⟨lw_in 451 (by decide +kernel) (by decide +kernel), lw_in 63 (by decide +kernel) (by decide +kernel), lw_in 454 (by decide +kernel) (by decide +kernel), by decide +kernel⟩
theorem kX3_signPart : Cond.instanceMethod yX3_signPart ∈ lw_ok ∧ Cond.selects yX3_signPart.cls yX3_signPart yX3_signPart ∈ lw_ok := ⟨lw_in 453 (by decide +kernel) (by decide +kernel), lw_in 18 (by decide +kernel) (by decide +kernel)⟩
theorem qX3_144 : zY RX3 144 yX1_countInForce mX1_countInForce 1 := ⟨lw_in 463 (by decide +kernel) (by decide +kernel), lw_in 64 (by decide +kernel) (by decide +kernel), lw_in 466 (by decide +kernel) (by decide +kernel), by decide +kernel⟩
theorem kX1_countInForce : Cond.instanceMethod yX1_countInForce ∈ lw_ok ∧ Cond.selects yX1_countInForce.cls yX1_countInForce yX1_countInForce ∈ lw_ok := ⟨lw_in 464 (by decide +kernel) (by decide +kernel), lw_in 465 (by decide +kernel) (by decide +kernel)⟩
theorem qX3_159 : zY RX3 159 yX1_slackAfter mX1_slackAfter 2 := ⟨lw_in 472 (by decide +kernel) (by decide +kernel), lw_in 64 (by decide +kernel) (by decide +kernel), lw_in 342 (by decide +kernel) (by decide +kernel), by decide +kernel⟩
theorem qX3_162 : zY RX3 162 yX3_isNothingNewBesideOthers mX3_isNothingNewBesideOthers 1 := ⟨lw_in 473 (by decide +kernel) (by decide +kernel), lw_in 63 (by decide +kernel) (by decide +kernel), lw_in 476 (by decide +kernel) (by decide +kernel), by decide +kernel⟩
theorem kX3_isNothingNewBesideOthers : Cond.instanceMethod yX3_isNothingNewBesideOthers ∈ lw_ok ∧ Cond.selects yX3_isNothingNewBesideOthers.cls yX3_isNothingNewBesideOthers yX3_isNothingNewBesideOthers ∈ lw_ok := ⟨lw_in 475 (by decide +kernel) (by decide +kernel), lw_in 19 (by decide +kernel) (by decide +kernel)⟩
theorem qX3_165 : zY RX3 165 yX2_boundByTreaties mX2_boundByTreaties 4 := ⟨lw_in 366 (by decide +kernel) (by decide +kernel), lw_in 65 (by decide +kernel) (by decide +kernel), lw_in 369 (by decide +kernel) (by decide +kernel), by decide +kernel⟩
theorem kX2_boundByTreaties : Cond.instanceMethod yX2_boundByTreaties ∈ lw_ok ∧ Cond.selects yX2_boundByTreaties.cls yX2_boundByTreaties yX2_boundByTreaties ∈ lw_ok := ⟨lw_in 367 (by decide +kernel) (by decide +kernel), lw_in 368 (by decide +kernel) (by decide +kernel)⟩
theorem qX3_169 : zY RX3 169 yX2_boundByPairs mX2_boundByPairs 3 := ⟨lw_in 481 (by decide +kernel) (by decide +kernel), lw_in 65 (by decide +kernel) (by decide +kernel), lw_in 484 (by decide +kernel) (by decide +kernel), by decide +kernel⟩
theorem kX2_boundByPairs : Cond.instanceMethod yX2_boundByPairs ∈ lw_ok ∧ Cond.selects yX2_boundByPairs.cls yX2_boundByPairs yX2_boundByPairs ∈ lw_ok := ⟨lw_in 482 (by decide +kernel) (by decide +kernel), lw_in 483 (by decide +kernel) (by decide +kernel)⟩
theorem qX3_174 : zY RX3 174 yX3_isAgreement mX3_isAgreement 3 := ⟨lw_in 351 (by decide +kernel) (by decide +kernel), lw_in 63 (by decide +kernel) (by decide +kernel), lw_in 353 (by decide +kernel) (by decide +kernel), by decide +kernel⟩
theorem kX3_isAgreement : Cond.static yX3_isAgreement ∈ lw_ok := lw_in 352 (by decide +kernel) (by decide +kernel)
theorem qX3_178 : zY RX3 178 yX3_reasonAgainst mX3_reasonAgainst 3 := ⟨lw_in 358 (by decide +kernel) (by decide +kernel), lw_in 63 (by decide +kernel) (by decide +kernel), lw_in 361 (by decide +kernel) (by decide +kernel), by decide +kernel⟩
theorem kX3_reasonAgainst : Cond.instanceMethod yX3_reasonAgainst ∈ lw_ok ∧ Cond.selects yX3_reasonAgainst.cls yX3_reasonAgainst yX3_reasonAgainst ∈ lw_ok := ⟨lw_in 360 (by decide +kernel) (by decide +kernel), lw_in 9 (by decide +kernel) (by decide +kernel)⟩
theorem qX3_181 : zY RX3 181 yX2_findLeastClippingByBounds mX2_findLeastClippingByBounds 1 := ⟨lw_in 507 (by decide +kernel) (by decide +kernel), lw_in 65 (by decide +kernel) (by decide +kernel), lw_in 510 (by decide +kernel) (by decide +kernel), by decide +kernel⟩
theorem kX2_findLeastClippingByBounds : Cond.instanceMethod yX2_findLeastClippingByBounds ∈ lw_ok ∧ Cond.selects yX2_findLeastClippingByBounds.cls yX2_findLeastClippingByBounds yX2_findLeastClippingByBounds ∈ lw_ok := ⟨lw_in 508 (by decide +kernel) (by decide +kernel), lw_in 509 (by decide +kernel) (by decide +kernel)⟩
theorem qX3_184 : zY RX3 184 yX3_sum mX3_sum 1 := ⟨lw_in 511 (by decide +kernel) (by decide +kernel), lw_in 63 (by decide +kernel) (by decide +kernel), lw_in 513 (by decide +kernel) (by decide +kernel), by decide +kernel⟩
theorem kX3_sum : Cond.static yX3_sum ∈ lw_ok := lw_in 512 (by decide +kernel) (by decide +kernel)
theorem qX3_188 : zY RX3 188 yX1_countNested mX1_countNested 0 := ⟨lw_in 518 (by decide +kernel) (by decide +kernel), lw_in 64 (by decide +kernel) (by decide +kernel), lw_in 521 (by decide +kernel) (by decide +kernel), by decide +kernel⟩
theorem kX1_countNested : Cond.instanceMethod yX1_countNested ∈ lw_ok ∧ Cond.selects yX1_countNested.cls yX1_countNested yX1_countNested ∈ lw_ok := ⟨lw_in 519 (by decide +kernel) (by decide +kernel), lw_in 520 (by decide +kernel) (by decide +kernel)⟩
theorem qX3_203 : zY RX3 203 yX1_heightsAfter mX1_heightsAfter 1 := ⟨lw_in 531 (by decide +kernel) (by decide +kernel), lw_in 64 (by decide +kernel) (by decide +kernel), lw_in 534 (by decide +kernel) (by decide +kernel), by decide +kernel⟩
theorem kX1_heightsAfter : Cond.instanceMethod yX1_heightsAfter ∈ lw_ok ∧ Cond.selects yX1_heightsAfter.cls yX1_heightsAfter yX1_heightsAfter ∈ lw_ok := ⟨lw_in 532 (by decide +kernel) (by decide +kernel), lw_in 533 (by decide +kernel) (by decide +kernel)⟩
theorem qX3_206 : zY RX3 206 yX2_isPossibleWith mX2_isPossibleWith 4 := ⟨lw_in 362 (by decide +kernel) (by decide +kernel), lw_in 65 (by decide +kernel) (by decide +kernel), lw_in 365 (by decide +kernel) (by decide +kernel), by decide +kernel⟩
theorem kX2_isPossibleWith : Cond.instanceMethod yX2_isPossibleWith ∈ lw_ok ∧ Cond.selects yX2_isPossibleWith.cls yX2_isPossibleWith yX2_isPossibleWith ∈ lw_ok := ⟨lw_in 363 (by decide +kernel) (by decide +kernel), lw_in 364 (by decide +kernel) (by decide +kernel)⟩
theorem qX3_210 : zY RX3 210 yX1_copyFrom mX1_copyFrom 1 := ⟨lw_in 256 (by decide +kernel) (by decide +kernel), lw_in 64 (by decide +kernel) (by decide +kernel), lw_in 259 (by decide +kernel) (by decide +kernel), by decide +kernel⟩
theorem kX1_copyFrom : Cond.instanceMethod yX1_copyFrom ∈ lw_ok ∧ Cond.selects yX1_copyFrom.cls yX1_copyFrom yX1_copyFrom ∈ lw_ok := ⟨lw_in 257 (by decide +kernel) (by decide +kernel), lw_in 258 (by decide +kernel) (by decide +kernel)⟩
theorem qX3_218 : zY RX3 218 yX3_dropOldestState mX3_dropOldestState 0 := ⟨lw_in 252 (by decide +kernel) (by decide +kernel), lw_in 63 (by decide +kernel) (by decide +kernel), lw_in 255 (by decide +kernel) (by decide +kernel), by decide +kernel⟩
theorem kX3_dropOldestState : Cond.instanceMethod yX3_dropOldestState ∈ lw_ok ∧ Cond.selects yX3_dropOldestState.cls yX3_dropOldestState yX3_dropOldestState ∈ lw_ok := ⟨lw_in 254 (by decide +kernel) (by decide +kernel), lw_in 1 (by decide +kernel) (by decide +kernel)⟩
theorem qX3_221 : zY RX3 221 yX1_addTreaty mX1_addTreaty 3 := ⟨lw_in 375 (by decide +kernel) (by decide +kernel), lw_in 64 (by decide +kernel) (by decide +kernel), lw_in 378 (by decide +kernel) (by decide +kernel), by decide +kernel⟩
theorem kX1_addTreaty : Cond.instanceMethod yX1_addTreaty ∈ lw_ok ∧ Cond.selects yX1_addTreaty.cls yX1_addTreaty yX1_addTreaty ∈ lw_ok := ⟨lw_in 376 (by decide +kernel) (by decide +kernel), lw_in 377 (by decide +kernel) (by decide +kernel)⟩
theorem qX4_34 : zY RX4 34 yX4_lays mX4_lays 3 := ⟨lw_in 561 (by decide +kernel) (by decide +kernel), lw_in 67 (by decide +kernel) (by decide +kernel), lw_in 564 (by decide +kernel) (by decide +kernel), by decide +kernel⟩
theorem kX4_lays : Cond.instanceMethod yX4_lays ∈ lw_ok ∧ Cond.selects yX4_lays.cls yX4_lays yX4_lays ∈ lw_ok := ⟨lw_in 563 (by decide +kernel) (by decide +kernel), lw_in 23 (by decide +kernel) (by decide +kernel)⟩
theorem qX4_42 : zY RX4 42 yX4_copies mX4_copies 4 := ⟨lw_in 631 (by decide +kernel) (by decide +kernel), lw_in 67 (by decide +kernel) (by decide +kernel), lw_in 633 (by decide +kernel) (by decide +kernel), by decide +kernel⟩
theorem kX4_copies : Cond.static yX4_copies ∈ lw_ok := lw_in 632 (by decide +kernel) (by decide +kernel)
theorem qX4_46 : zY RX4 46 yX4_in mX4_in 3 := ⟨lw_in 624 (by decide +kernel) (by decide +kernel), lw_in 67 (by decide +kernel) (by decide +kernel), lw_in 626 (by decide +kernel) (by decide +kernel), by decide +kernel⟩
theorem kX4_in : Cond.static yX4_in ∈ lw_ok := lw_in 625 (by decide +kernel) (by decide +kernel)
theorem qX4_50 : zY RX4 50 yX4_of mX4_of 2 := ⟨lw_in 634 (by decide +kernel) (by decide +kernel), lw_in 67 (by decide +kernel) (by decide +kernel), lw_in 637 (by decide +kernel) (by decide +kernel), by decide +kernel⟩
theorem kX4_of : Cond.instanceMethod yX4_of ∈ lw_ok ∧ Cond.selects yX4_of.cls yX4_of yX4_of ∈ lw_ok := ⟨lw_in 636 (by decide +kernel) (by decide +kernel), lw_in 25 (by decide +kernel) (by decide +kernel)⟩
theorem qX4_54 : zY RX4 54 yX4_ofTreaty mX4_ofTreaty 2 := ⟨lw_in 686 (by decide +kernel) (by decide +kernel), lw_in 67 (by decide +kernel) (by decide +kernel), lw_in 689 (by decide +kernel) (by decide +kernel), by decide +kernel⟩
theorem kX4_ofTreaty : Cond.instanceMethod yX4_ofTreaty ∈ lw_ok ∧ Cond.selects yX4_ofTreaty.cls yX4_ofTreaty yX4_ofTreaty ∈ lw_ok := ⟨lw_in 688 (by decide +kernel) (by decide +kernel), lw_in 34 (by decide +kernel) (by decide +kernel)⟩
theorem qX4_57 : zY RX4 57 yX4_isForce mX4_isForce 1 := ⟨lw_in 682 (by decide +kernel) (by decide +kernel), lw_in 67 (by decide +kernel) (by decide +kernel), lw_in 685 (by decide +kernel) (by decide +kernel), by decide +kernel⟩
theorem kX4_isForce : Cond.instanceMethod yX4_isForce ∈ lw_ok ∧ Cond.selects yX4_isForce.cls yX4_isForce yX4_isForce ∈ lw_ok := ⟨lw_in 684 (by decide +kernel) (by decide +kernel), lw_in 33 (by decide +kernel) (by decide +kernel)⟩
theorem qX4_61 : zY RX4 61 yX4_slackOf mX4_slackOf 1 := ⟨lw_in 710 (by decide +kernel) (by decide +kernel), lw_in 67 (by decide +kernel) (by decide +kernel), lw_in 713 (by decide +kernel) (by decide +kernel), by decide +kernel⟩
theorem kX4_slackOf : Cond.instanceMethod yX4_slackOf ∈ lw_ok ∧ Cond.selects yX4_slackOf.cls yX4_slackOf yX4_slackOf ∈ lw_ok := ⟨lw_in 712 (by decide +kernel) (by decide +kernel), lw_in 39 (by decide +kernel) (by decide +kernel)⟩
theorem qX4_65 : zY RX4 65 yX4_isBroken mX4_isBroken 1 := ⟨lw_in 706 (by decide +kernel) (by decide +kernel), lw_in 67 (by decide +kernel) (by decide +kernel), lw_in 709 (by decide +kernel) (by decide +kernel), by decide +kernel⟩
theorem kX4_isBroken : Cond.instanceMethod yX4_isBroken ∈ lw_ok ∧ Cond.selects yX4_isBroken.cls yX4_isBroken yX4_isBroken ∈ lw_ok := ⟨lw_in 708 (by decide +kernel) (by decide +kernel), lw_in 38 (by decide +kernel) (by decide +kernel)⟩
theorem qX4_68 : zY RX4 68 yX4_areTall mX4_areTall 0 := ⟨lw_in 678 (by decide +kernel) (by decide +kernel), lw_in 67 (by decide +kernel) (by decide +kernel), lw_in 681 (by decide +kernel) (by decide +kernel), by decide +kernel⟩
theorem kX4_areTall : Cond.instanceMethod yX4_areTall ∈ lw_ok ∧ Cond.selects yX4_areTall.cls yX4_areTall yX4_areTall ∈ lw_ok := ⟨lw_in 680 (by decide +kernel) (by decide +kernel), lw_in 32 (by decide +kernel) (by decide +kernel)⟩
theorem qX4_72 : zY RX4 72 yX4_lowers mX4_lowers 3 := ⟨lw_in 690 (by decide +kernel) (by decide +kernel), lw_in 67 (by decide +kernel) (by decide +kernel), lw_in 693 (by decide +kernel) (by decide +kernel), by decide +kernel⟩
theorem kX4_lowers : Cond.instanceMethod yX4_lowers ∈ lw_ok ∧ Cond.selects yX4_lowers.cls yX4_lowers yX4_lowers ∈ lw_ok := ⟨lw_in 692 (by decide +kernel) (by decide +kernel), lw_in 35 (by decide +kernel) (by decide +kernel)⟩
theorem qX4_75 : zY RX4 75 yX4_settles mX4_settles 1 := ⟨lw_in 674 (by decide +kernel) (by decide +kernel), lw_in 67 (by decide +kernel) (by decide +kernel), lw_in 677 (by decide +kernel) (by decide +kernel), by decide +kernel⟩
theorem kX4_settles : Cond.instanceMethod yX4_settles ∈ lw_ok ∧ Cond.selects yX4_settles.cls yX4_settles yX4_settles ∈ lw_ok := ⟨lw_in 676 (by decide +kernel) (by decide +kernel), lw_in 31 (by decide +kernel) (by decide +kernel)⟩
theorem qX4_80 : zY RX4 80 yX4_isPossible mX4_isPossible 3 := ⟨lw_in 733 (by decide +kernel) (by decide +kernel), lw_in 67 (by decide +kernel) (by decide +kernel), lw_in 736 (by decide +kernel) (by decide +kernel), by decide +kernel⟩
theorem kX4_isPossible : Cond.instanceMethod yX4_isPossible ∈ lw_ok ∧ Cond.selects yX4_isPossible.cls yX4_isPossible yX4_isPossible ∈ lw_ok := ⟨lw_in 735 (by decide +kernel) (by decide +kernel), lw_in 43 (by decide +kernel) (by decide +kernel)⟩
theorem qX4_83 : zY RX4 83 yX4_boundBut mX4_boundBut 3 := ⟨lw_in 737 (by decide +kernel) (by decide +kernel), lw_in 67 (by decide +kernel) (by decide +kernel), lw_in 740 (by decide +kernel) (by decide +kernel), by decide +kernel⟩
theorem kX4_boundBut : Cond.instanceMethod yX4_boundBut ∈ lw_ok ∧ Cond.selects yX4_boundBut.cls yX4_boundBut yX4_boundBut ∈ lw_ok := ⟨lw_in 739 (by decide +kernel) (by decide +kernel), lw_in 44 (by decide +kernel) (by decide +kernel)⟩
theorem qX4_87 : zY RX4 87 yX4_isHedge mX4_isHedge 1 := ⟨lw_in 621 (by decide +kernel) (by decide +kernel), lw_in 67 (by decide +kernel) (by decide +kernel), lw_in 623 (by decide +kernel) (by decide +kernel), by decide +kernel⟩
theorem kX4_isHedge : Cond.static yX4_isHedge ∈ lw_ok := lw_in 622 (by decide +kernel) (by decide +kernel)
theorem qX4_90 : zY RX4 90 yX4_isPair mX4_isPair 2 := ⟨lw_in 722 (by decide +kernel) (by decide +kernel), lw_in 67 (by decide +kernel) (by decide +kernel), lw_in 724 (by decide +kernel) (by decide +kernel), by decide +kernel⟩
theorem kX4_isPair : Cond.static yX4_isPair ∈ lw_ok := lw_in 723 (by decide +kernel) (by decide +kernel)
theorem qX4_94 : zY RX4 94 yX4_reasonToSign mX4_reasonToSign 3 := ⟨lw_in 729 (by decide +kernel) (by decide +kernel), lw_in 67 (by decide +kernel) (by decide +kernel), lw_in 732 (by decide +kernel) (by decide +kernel), by decide +kernel⟩
theorem kX4_reasonToSign : Cond.instanceMethod yX4_reasonToSign ∈ lw_ok ∧ Cond.selects yX4_reasonToSign.cls yX4_reasonToSign yX4_reasonToSign ∈ lw_ok := ⟨lw_in 731 (by decide +kernel) (by decide +kernel), lw_in 42 (by decide +kernel) (by decide +kernel)⟩
theorem qX4_97 : zY RX4 97 yX4_refuses mX4_refuses 1 := ⟨lw_in 654 (by decide +kernel) (by decide +kernel), lw_in 67 (by decide +kernel) (by decide +kernel), lw_in 657 (by decide +kernel) (by decide +kernel), by decide +kernel⟩
theorem kX4_refuses : Cond.instanceMethod yX4_refuses ∈ lw_ok ∧ Cond.selects yX4_refuses.cls yX4_refuses yX4_refuses ∈ lw_ok := ⟨lw_in 656 (by decide +kernel) (by decide +kernel), lw_in 27 (by decide +kernel) (by decide +kernel)⟩
theorem qX4_100 : zY RX4 100 yX4_laysTreaty mX4_laysTreaty 3 := ⟨lw_in 742 (by decide +kernel) (by decide +kernel), lw_in 67 (by decide +kernel) (by decide +kernel), lw_in 745 (by decide +kernel) (by decide +kernel), by decide +kernel⟩
theorem kX4_laysTreaty : Cond.instanceMethod yX4_laysTreaty ∈ lw_ok ∧ Cond.selects yX4_laysTreaty.cls yX4_laysTreaty yX4_laysTreaty ∈ lw_ok := ⟨lw_in 744 (by decide +kernel) (by decide +kernel), lw_in 45 (by decide +kernel) (by decide +kernel)⟩
theorem qX4_103 : zY RX4 103 yX4_hasLeast mX4_hasLeast 0 := ⟨lw_in 670 (by decide +kernel) (by decide +kernel), lw_in 67 (by decide +kernel) (by decide +kernel), lw_in 673 (by decide +kernel) (by decide +kernel), by decide +kernel⟩
theorem kX4_hasLeast : Cond.instanceMethod yX4_hasLeast ∈ lw_ok ∧ Cond.selects yX4_hasLeast.cls yX4_hasLeast yX4_hasLeast ∈ lw_ok := ⟨lw_in 672 (by decide +kernel) (by decide +kernel), lw_in 30 (by decide +kernel) (by decide +kernel)⟩
theorem qX4_106 : zY RX4 106 yX4_isNested mX4_isNested 1 := ⟨lw_in 650 (by decide +kernel) (by decide +kernel), lw_in 67 (by decide +kernel) (by decide +kernel), lw_in 653 (by decide +kernel) (by decide +kernel), by decide +kernel⟩
theorem kX4_isNested : Cond.instanceMethod yX4_isNested ∈ lw_ok ∧ Cond.selects yX4_isNested.cls yX4_isNested yX4_isNested ∈ lw_ok := ⟨lw_in 652 (by decide +kernel) (by decide +kernel), lw_in 26 (by decide +kernel) (by decide +kernel)⟩
theorem qX4_109 : zY RX4 109 yX4_clips mX4_clips 2 := ⟨lw_in 658 (by decide +kernel) (by decide +kernel), lw_in 67 (by decide +kernel) (by decide +kernel), lw_in 661 (by decide +kernel) (by decide +kernel), by decide +kernel⟩
theorem kX4_clips : Cond.instanceMethod yX4_clips ∈ lw_ok ∧ Cond.selects yX4_clips.cls yX4_clips yX4_clips ∈ lw_ok := ⟨lw_in 660 (by decide +kernel) (by decide +kernel), lw_in 28 (by decide +kernel) (by decide +kernel)⟩
theorem qX4_113 : zY RX4 113 yX4_records mX4_records 0 := ⟨lw_in 627 (by decide +kernel) (by decide +kernel), lw_in 67 (by decide +kernel) (by decide +kernel), lw_in 630 (by decide +kernel) (by decide +kernel), by decide +kernel⟩
theorem kX4_records : Cond.instanceMethod yX4_records ∈ lw_ok ∧ Cond.selects yX4_records.cls yX4_records yX4_records ∈ lw_ok := ⟨lw_in 629 (by decide +kernel) (by decide +kernel), lw_in 24 (by decide +kernel) (by decide +kernel)⟩
theorem qX4_116 : zY RX4 116 yX4_goPlan mX4_goPlan 0 := ⟨lw_in 666 (by decide +kernel) (by decide +kernel), lw_in 67 (by decide +kernel) (by decide +kernel), lw_in 669 (by decide +kernel) (by decide +kernel), by decide +kernel⟩
theorem kX4_goPlan : Cond.instanceMethod yX4_goPlan ∈ lw_ok ∧ Cond.selects yX4_goPlan.cls yX4_goPlan yX4_goPlan ∈ lw_ok := ⟨lw_in 668 (by decide +kernel) (by decide +kernel), lw_in 29 (by decide +kernel) (by decide +kernel)⟩
theorem qX4_120 : zY RX4 120 yX4_goDay mX4_goDay 0 := ⟨lw_in 698 (by decide +kernel) (by decide +kernel), lw_in 67 (by decide +kernel) (by decide +kernel), lw_in 701 (by decide +kernel) (by decide +kernel), by decide +kernel⟩
theorem kX4_goDay : Cond.instanceMethod yX4_goDay ∈ lw_ok ∧ Cond.selects yX4_goDay.cls yX4_goDay yX4_goDay ∈ lw_ok := ⟨lw_in 700 (by decide +kernel) (by decide +kernel), lw_in 36 (by decide +kernel) (by decide +kernel)⟩
theorem qX4_123 : zY RX4 123 yX4_brokenOnes mX4_brokenOnes 0 := ⟨lw_in 702 (by decide +kernel) (by decide +kernel), lw_in 67 (by decide +kernel) (by decide +kernel), lw_in 705 (by decide +kernel) (by decide +kernel), by decide +kernel⟩
theorem kX4_brokenOnes : Cond.instanceMethod yX4_brokenOnes ∈ lw_ok ∧ Cond.selects yX4_brokenOnes.cls yX4_brokenOnes yX4_brokenOnes ∈ lw_ok := ⟨lw_in 704 (by decide +kernel) (by decide +kernel), lw_in 37 (by decide +kernel) (by decide +kernel)⟩
theorem qX4_126 : zY RX4 126 yX4_errorOfSign mX4_errorOfSign 3 := ⟨lw_in 718 (by decide +kernel) (by decide +kernel), lw_in 67 (by decide +kernel) (by decide +kernel), lw_in 721 (by decide +kernel) (by decide +kernel), by decide +kernel⟩
theorem kX4_errorOfSign : Cond.instanceMethod yX4_errorOfSign ∈ lw_ok ∧ Cond.selects yX4_errorOfSign.cls yX4_errorOfSign yX4_errorOfSign ∈ lw_ok := ⟨lw_in 720 (by decide +kernel) (by decide +kernel), lw_in 40 (by decide +kernel) (by decide +kernel)⟩
theorem qX4_129 : zY RX4 129 yX4_goSign mX4_goSign 3 := ⟨lw_in 725 (by decide +kernel) (by decide +kernel), lw_in 67 (by decide +kernel) (by decide +kernel), lw_in 728 (by decide +kernel) (by decide +kernel), by decide +kernel⟩
theorem kX4_goSign : Cond.instanceMethod yX4_goSign ∈ lw_ok ∧ Cond.selects yX4_goSign.cls yX4_goSign yX4_goSign ∈ lw_ok := ⟨lw_in 727 (by decide +kernel) (by decide +kernel), lw_in 41 (by decide +kernel) (by decide +kernel)⟩
theorem qX4_132 : zY RX4 132 yX4_isTreaty mX4_isTreaty 1 := ⟨lw_in 750 (by decide +kernel) (by decide +kernel), lw_in 67 (by decide +kernel) (by decide +kernel), lw_in 753 (by decide +kernel) (by decide +kernel), by decide +kernel⟩
theorem kX4_isTreaty : Cond.instanceMethod yX4_isTreaty ∈ lw_ok ∧ Cond.selects yX4_isTreaty.cls yX4_isTreaty yX4_isTreaty ∈ lw_ok := ⟨lw_in 752 (by decide +kernel) (by decide +kernel), lw_in 46 (by decide +kernel) (by decide +kernel)⟩
theorem qX4_145 : zY RX4 145 yX4_here mX4_here 0 := ⟨lw_in 786 (by decide +kernel) (by decide +kernel), lw_in 67 (by decide +kernel) (by decide +kernel), lw_in 789 (by decide +kernel) (by decide +kernel), by decide +kernel⟩
theorem kX4_here : Cond.instanceMethod yX4_here ∈ lw_ok ∧ Cond.selects yX4_here.cls yX4_here yX4_here ∈ lw_ok := ⟨lw_in 788 (by decide +kernel) (by decide +kernel), lw_in 50 (by decide +kernel) (by decide +kernel)⟩
theorem qX4_148 : zY RX4 148 yX4_takes mX4_takes 1 := ⟨lw_in 790 (by decide +kernel) (by decide +kernel), lw_in 67 (by decide +kernel) (by decide +kernel), lw_in 793 (by decide +kernel) (by decide +kernel), by decide +kernel⟩
theorem kX4_takes : Cond.instanceMethod yX4_takes ∈ lw_ok ∧ Cond.selects yX4_takes.cls yX4_takes yX4_takes ∈ lw_ok := ⟨lw_in 792 (by decide +kernel) (by decide +kernel), lw_in 51 (by decide +kernel) (by decide +kernel)⟩
theorem qX4_152 : zY RX4 152 yX4_takesDigit mX4_takesDigit 2 := ⟨lw_in 782 (by decide +kernel) (by decide +kernel), lw_in 67 (by decide +kernel) (by decide +kernel), lw_in 785 (by decide +kernel) (by decide +kernel), by decide +kernel⟩
theorem kX4_takesDigit : Cond.instanceMethod yX4_takesDigit ∈ lw_ok ∧ Cond.selects yX4_takesDigit.cls yX4_takesDigit yX4_takesDigit ∈ lw_ok := ⟨lw_in 784 (by decide +kernel) (by decide +kernel), lw_in 49 (by decide +kernel) (by decide +kernel)⟩
theorem qX4_164 : zY RX4 164 yX4_takesNumber mX4_takesNumber 1 := ⟨lw_in 794 (by decide +kernel) (by decide +kernel), lw_in 67 (by decide +kernel) (by decide +kernel), lw_in 797 (by decide +kernel) (by decide +kernel), by decide +kernel⟩
theorem kX4_takesNumber : Cond.instanceMethod yX4_takesNumber ∈ lw_ok ∧ Cond.selects yX4_takesNumber.cls yX4_takesNumber yX4_takesNumber ∈ lw_ok := ⟨lw_in 796 (by decide +kernel) (by decide +kernel), lw_in 52 (by decide +kernel) (by decide +kernel)⟩
theorem qX4_167 : zY RX4 167 yX4_takesPart mX4_takesPart 0 := ⟨lw_in 778 (by decide +kernel) (by decide +kernel), lw_in 67 (by decide +kernel) (by decide +kernel), lw_in 781 (by decide +kernel) (by decide +kernel), by decide +kernel⟩
theorem kX4_takesPart : Cond.instanceMethod yX4_takesPart ∈ lw_ok ∧ Cond.selects yX4_takesPart.cls yX4_takesPart yX4_takesPart ∈ lw_ok := ⟨lw_in 780 (by decide +kernel) (by decide +kernel), lw_in 48 (by decide +kernel) (by decide +kernel)⟩
theorem qX4_170 : zY RX4 170 yX4_isText mX4_isText 0 := ⟨lw_in 774 (by decide +kernel) (by decide +kernel), lw_in 67 (by decide +kernel) (by decide +kernel), lw_in 777 (by decide +kernel) (by decide +kernel), by decide +kernel⟩
theorem kX4_isText : Cond.instanceMethod yX4_isText ∈ lw_ok ∧ Cond.selects yX4_isText.cls yX4_isText yX4_isText ∈ lw_ok := ⟨lw_in 776 (by decide +kernel) (by decide +kernel), lw_in 47 (by decide +kernel) (by decide +kernel)⟩
theorem qX4_176 : zY RX4 176 yX4_isAbout mX4_isAbout 2 := ⟨lw_in 814 (by decide +kernel) (by decide +kernel), lw_in 67 (by decide +kernel) (by decide +kernel), lw_in 817 (by decide +kernel) (by decide +kernel), by decide +kernel⟩
theorem kX4_isAbout : Cond.instanceMethod yX4_isAbout ∈ lw_ok ∧ Cond.selects yX4_isAbout.cls yX4_isAbout yX4_isAbout ∈ lw_ok := ⟨lw_in 816 (by decide +kernel) (by decide +kernel), lw_in 54 (by decide +kernel) (by decide +kernel)⟩
theorem qX4_179 : zY RX4 179 yX4_brokenAbout mX4_brokenAbout 1 := ⟨lw_in 810 (by decide +kernel) (by decide +kernel), lw_in 67 (by decide +kernel) (by decide +kernel), lw_in 813 (by decide +kernel) (by decide +kernel), by decide +kernel⟩
theorem kX4_brokenAbout : Cond.instanceMethod yX4_brokenAbout ∈ lw_ok ∧ Cond.selects yX4_brokenAbout.cls yX4_brokenAbout yX4_brokenAbout ∈ lw_ok := ⟨lw_in 812 (by decide +kernel) (by decide +kernel), lw_in 53 (by decide +kernel) (by decide +kernel)⟩
theorem qX4_182 : zY RX4 182 yX4_forceAbout mX4_forceAbout 1 := ⟨lw_in 818 (by decide +kernel) (by decide +kernel), lw_in 67 (by decide +kernel) (by decide +kernel), lw_in 821 (by decide +kernel) (by decide +kernel), by decide +kernel⟩
theorem kX4_forceAbout : Cond.instanceMethod yX4_forceAbout ∈ lw_ok ∧ Cond.selects yX4_forceAbout.cls yX4_forceAbout yX4_forceAbout ∈ lw_ok := ⟨lw_in 820 (by decide +kernel) (by decide +kernel), lw_in 55 (by decide +kernel) (by decide +kernel)⟩
theorem qX4_185 : zY RX4 185 yX4_saysNothing mX4_saysNothing 1 := ⟨lw_in 826 (by decide +kernel) (by decide +kernel), lw_in 67 (by decide +kernel) (by decide +kernel), lw_in 829 (by decide +kernel) (by decide +kernel), by decide +kernel⟩
theorem kX4_saysNothing : Cond.instanceMethod yX4_saysNothing ∈ lw_ok ∧ Cond.selects yX4_saysNothing.cls yX4_saysNothing yX4_saysNothing ∈ lw_ok := ⟨lw_in 828 (by decide +kernel) (by decide +kernel), lw_in 56 (by decide +kernel) (by decide +kernel)⟩
theorem qX4_188 : zY RX4 188 yX4_boundOf mX4_boundOf 2 := ⟨lw_in 834 (by decide +kernel) (by decide +kernel), lw_in 67 (by decide +kernel) (by decide +kernel), lw_in 837 (by decide +kernel) (by decide +kernel), by decide +kernel⟩
theorem kX4_boundOf : Cond.instanceMethod yX4_boundOf ∈ lw_ok ∧ Cond.selects yX4_boundOf.cls yX4_boundOf yX4_boundOf ∈ lw_ok := ⟨lw_in 836 (by decide +kernel) (by decide +kernel), lw_in 57 (by decide +kernel) (by decide +kernel)⟩
theorem qX4_191 : zY RX4 191 yX4_clippingNow mX4_clippingNow 0 := ⟨lw_in 846 (by decide +kernel) (by decide +kernel), lw_in 67 (by decide +kernel) (by decide +kernel), lw_in 849 (by decide +kernel) (by decide +kernel), by decide +kernel⟩
theorem kX4_clippingNow : Cond.instanceMethod yX4_clippingNow ∈ lw_ok ∧ Cond.selects yX4_clippingNow.cls yX4_clippingNow yX4_clippingNow ∈ lw_ok := ⟨lw_in 848 (by decide +kernel) (by decide +kernel), lw_in 58 (by decide +kernel) (by decide +kernel)⟩
theorem qX4_194 : zY RX4 194 yX4_inForce mX4_inForce 0 := ⟨lw_in 854 (by decide +kernel) (by decide +kernel), lw_in 67 (by decide +kernel) (by decide +kernel), lw_in 857 (by decide +kernel) (by decide +kernel), by decide +kernel⟩
theorem kX4_inForce : Cond.instanceMethod yX4_inForce ∈ lw_ok ∧ Cond.selects yX4_inForce.cls yX4_inForce yX4_inForce ∈ lw_ok := ⟨lw_in 856 (by decide +kernel) (by decide +kernel), lw_in 59 (by decide +kernel) (by decide +kernel)⟩
theorem qX4_197 : zY RX4 197 yX4_allHeights mX4_allHeights 0 := ⟨lw_in 858 (by decide +kernel) (by decide +kernel), lw_in 67 (by decide +kernel) (by decide +kernel), lw_in 861 (by decide +kernel) (by decide +kernel), by decide +kernel⟩
theorem kX4_allHeights : Cond.instanceMethod yX4_allHeights ∈ lw_ok ∧ Cond.selects yX4_allHeights.cls yX4_allHeights yX4_allHeights ∈ lw_ok := ⟨lw_in 860 (by decide +kernel) (by decide +kernel), lw_in 60 (by decide +kernel) (by decide +kernel)⟩
theorem qX4_200 : zY RX4 200 yX4_nested mX4_nested 0 := ⟨lw_in 862 (by decide +kernel) (by decide +kernel), lw_in 67 (by decide +kernel) (by decide +kernel), lw_in 865 (by decide +kernel) (by decide +kernel), by decide +kernel⟩
theorem kX4_nested : Cond.instanceMethod yX4_nested ∈ lw_ok ∧ Cond.selects yX4_nested.cls yX4_nested yX4_nested ∈ lw_ok := ⟨lw_in 864 (by decide +kernel) (by decide +kernel), lw_in 61 (by decide +kernel) (by decide +kernel)⟩
theorem qX0_3 : Cond.methodLink RX0 3 objectInit ∈ lw_ok ∧ Cond.instanceMethod objectInit ∈ lw_ok ∧ Cond.code objectInit ⟨#[0xb1]⟩ 1 none ∈ lw_ok := ⟨lw_in 171 (by decide +kernel) (by decide +kernel), lw_in 75 (by decide +kernel) (by decide +kernel), lw_in 76 (by decide +kernel) (by decide +kernel)⟩
theorem qX1_3 : Cond.methodLink RX1 3 objectInit ∈ lw_ok ∧ Cond.instanceMethod objectInit ∈ lw_ok ∧ Cond.code objectInit ⟨#[0xb1]⟩ 1 none ∈ lw_ok := ⟨lw_in 82 (by decide +kernel) (by decide +kernel), lw_in 75 (by decide +kernel) (by decide +kernel), lw_in 76 (by decide +kernel) (by decide +kernel)⟩
theorem qX1_59 : Cond.methodLink RX1 59 Lib.Math.min.name ∈ lw_ok := lw_in 324 (by decide +kernel) (by decide +kernel)
theorem qX2_3 : Cond.methodLink RX2 3 objectInit ∈ lw_ok ∧ Cond.instanceMethod objectInit ∈ lw_ok ∧ Cond.code objectInit ⟨#[0xb1]⟩ 1 none ∈ lw_ok := ⟨lw_in 152 (by decide +kernel) (by decide +kernel), lw_in 75 (by decide +kernel) (by decide +kernel), lw_in 76 (by decide +kernel) (by decide +kernel)⟩
theorem qX2_58 : Cond.methodLink RX2 58 Lib.Math.min.name ∈ lw_ok := lw_in 493 (by decide +kernel) (by decide +kernel)
theorem qX3_1 : Cond.methodLink RX3 1 objectInit ∈ lw_ok ∧ Cond.instanceMethod objectInit ∈ lw_ok ∧ Cond.code objectInit ⟨#[0xb1]⟩ 1 none ∈ lw_ok := ⟨lw_in 74 (by decide +kernel) (by decide +kernel), lw_in 75 (by decide +kernel) (by decide +kernel), lw_in 76 (by decide +kernel) (by decide +kernel)⟩
theorem qX4_1 : Cond.methodLink RX4 1 objectInit ∈ lw_ok ∧ Cond.instanceMethod objectInit ∈ lw_ok ∧ Cond.code objectInit ⟨#[0xb1]⟩ 1 none ∈ lw_ok := ⟨lw_in 560 (by decide +kernel) (by decide +kernel), lw_in 75 (by decide +kernel) (by decide +kernel), lw_in 76 (by decide +kernel) (by decide +kernel)⟩
theorem kmin : Cond.static Lib.Math.min.name ∈ lw_ok ∧ Cond.initialized "java/lang/Math" ∈ lw_ok ∧ Cond.code Lib.Math.min.name Lib.Math.min.code 2 (some .int) ∈ lw_ok := ⟨lw_in 325 (by decide +kernel) (by decide +kernel), lw_in 68 (by decide +kernel) (by decide +kernel), lw_in 326 (by decide +kernel) (by decide +kernel)⟩
theorem kX2_23 : Cond.constant RX2 23 1000000 ∈ lw_ok := lw_in 370 (by decide +kernel) (by decide +kernel)
theorem kX3_173 : Cond.constant RX3 173 1000000 ∈ lw_ok := lw_in 498 (by decide +kernel) (by decide +kernel)
theorem kX4_79 : Cond.constant RX4 79 100000 ∈ lw_ok := lw_in 741 (by decide +kernel) (by decide +kernel)
theorem karr : Cond.arrayClass .int ∈ lw_ok := lw_in 145 (by decide +kernel) (by decide +kernel)
theorem kcL_7 : Cond.classLink RL 7 RX3 ∈ lw_ok := lw_in 69 (by decide +kernel) (by decide +kernel)
theorem kcX3_7 : Cond.classLink RX3 7 RX1 ∈ lw_ok := lw_in 77 (by decide +kernel) (by decide +kernel)
theorem kcX3_23 : Cond.classLink RX3 23 RX2 ∈ lw_ok := lw_in 147 (by decide +kernel) (by decide +kernel)
theorem kcX2_18 : Cond.classLink RX2 18 "[[I" ∈ lw_ok := lw_in 153 (by decide +kernel) (by decide +kernel)
theorem kcX3_30 : Cond.classLink RX3 30 RX0 ∈ lw_ok := lw_in 166 (by decide +kernel) (by decide +kernel)
theorem kcL_10 : Cond.classLink RL 10 RX4 ∈ lw_ok := lw_in 555 (by decide +kernel) (by decide +kernel)
theorem kn_0 : Cond.instantiable RX0 10 ∈ lw_ok ∧ Cond.initialized RX0 ∈ lw_ok := ⟨lw_in 167 (by decide +kernel) (by decide +kernel), lw_in 66 (by decide +kernel) (by decide +kernel)⟩
theorem kn_1 : Cond.instantiable RX1 14 ∈ lw_ok ∧ Cond.initialized RX1 ∈ lw_ok := ⟨lw_in 78 (by decide +kernel) (by decide +kernel), lw_in 64 (by decide +kernel) (by decide +kernel)⟩
theorem kn_2 : Cond.instantiable RX2 3 ∈ lw_ok ∧ Cond.initialized RX2 ∈ lw_ok := ⟨lw_in 148 (by decide +kernel) (by decide +kernel), lw_in 65 (by decide +kernel) (by decide +kernel)⟩
theorem kn_3 : Cond.instantiable RX3 10 ∈ lw_ok ∧ Cond.initialized RX3 ∈ lw_ok := ⟨lw_in 70 (by decide +kernel) (by decide +kernel), lw_in 63 (by decide +kernel) (by decide +kernel)⟩
theorem kn_4 : Cond.instantiable RX4 17 ∈ lw_ok ∧ Cond.initialized RX4 ∈ lw_ok := ⟨lw_in 556 (by decide +kernel) (by decide +kernel), lw_in 67 (by decide +kernel) (by decide +kernel)⟩
end
section
/-! the steady world: which cell is what, once the law's two objects are made; h: the order of the history's streets -/
abbrev zO (ci : Nat) (rs : List (Option (Option Nat))) : zK := .inr (.inr (ci, rs))
abbrev rF (a : Nat) : Option (Option Nat) := some (some a)
abbrev stF (a : Nat) : List (Option (Option Nat)) := [rF (a + 1), rF (a + 2), rF (a + 3), rF (a + 4), rF (a + 5), rF (a + 6), rF (a + 7), rF (a + 8), none, none, none, none, none, none]
def shL (h : Nat → Nat) : List zK :=
  [zO 3 [rF 1, rF 10, rF 19, rF 56, rF 68, none, none, none, none, none],
   zO 1 (stF 1), .inl 8, .inl 8, .inl 8, .inl 8, .inl 14, .inl 14, .inl 14, .inl 14,
   zO 1 (stF 10), .inl 8, .inl 8, .inl 8, .inl 8, .inl 14, .inl 14, .inl 14, .inl 14,
   .inr (.inl (false, 4, fun j => some (h j))),
   zO 1 (stF 20), .inl 8, .inl 8, .inl 8, .inl 8, .inl 14, .inl 14, .inl 14, .inl 14,
   zO 1 (stF 29), .inl 8, .inl 8, .inl 8, .inl 8, .inl 14, .inl 14, .inl 14, .inl 14,
   zO 1 (stF 38), .inl 8, .inl 8, .inl 8, .inl 8, .inl 14, .inl 14, .inl 14, .inl 14,
   zO 1 (stF 47), .inl 8, .inl 8, .inl 8, .inl 8, .inl 14, .inl 14, .inl 14, .inl 14,
   zO 2 [rF 57, rF 58, rF 59], .inl 8, .inl 8, .inr (.inl (true, 8, fun j => if j < 8 then some (60 + j) else none)),
   .inl 8, .inl 8, .inl 8, .inl 8, .inl 8, .inl 8, .inl 8, .inl 8,
   zO 0 [rF 69, none, rF 70, rF 71, rF 72, rF 73, none, none, none, none], .inl 60, .inl 15, .inl 15, .inl 15, .inl 15,
   zO 4 [rF 75, rF 76, rF 77, none, rF 78, none, rF 79, none, rF 80, rF 81, none, none, none, none, none, none, rF 82],
   .inl 95, .inl 95, .inl 380, .inl 95, .inl 60, .inl 8, .inl 8, .inl 3]
def SH (h : Nat → Nat) (a : Nat) : zK := (shL h).getD a (.inl 0)
abbrev zw (h : Nat → Nat) (m : zM) : zW := (83, SH h, m)
def IsSt (a : Nat) : Prop := a = 1 ∨ a = 10 ∨ a = 20 ∨ a = 29 ∨ a = 38 ∨ a = 47
theorem IsSt.lt {a : Nat} (hs : IsSt a) : a ≤ 47 := by unfold IsSt at hs; omega
theorem shS {h : Nat → Nat} {a : Nat} (hs : IsSt a) : SH h a = .inr (.inr (1, stF a)) := by rcases hs with rfl | rfl | rfl | rfl | rfl | rfl <;> rfl
theorem shS0 {h : Nat → Nat} {a : Nat} (hs : IsSt a) : SH h (a + 1) = .inl 8 := by rcases hs with rfl | rfl | rfl | rfl | rfl | rfl <;> rfl
theorem shS1 {h : Nat → Nat} {a : Nat} (hs : IsSt a) : SH h (a + 2) = .inl 8 := by rcases hs with rfl | rfl | rfl | rfl | rfl | rfl <;> rfl
theorem shS2 {h : Nat → Nat} {a : Nat} (hs : IsSt a) : SH h (a + 3) = .inl 8 := by rcases hs with rfl | rfl | rfl | rfl | rfl | rfl <;> rfl
theorem shS3 {h : Nat → Nat} {a : Nat} (hs : IsSt a) : SH h (a + 4) = .inl 8 := by rcases hs with rfl | rfl | rfl | rfl | rfl | rfl <;> rfl
theorem shS4 {h : Nat → Nat} {a : Nat} (hs : IsSt a) : SH h (a + 5) = .inl 14 := by rcases hs with rfl | rfl | rfl | rfl | rfl | rfl <;> rfl
theorem shS5 {h : Nat → Nat} {a : Nat} (hs : IsSt a) : SH h (a + 6) = .inl 14 := by rcases hs with rfl | rfl | rfl | rfl | rfl | rfl <;> rfl
theorem shS6 {h : Nat → Nat} {a : Nat} (hs : IsSt a) : SH h (a + 7) = .inl 14 := by rcases hs with rfl | rfl | rfl | rfl | rfl | rfl <;> rfl
theorem shS7 {h : Nat → Nat} {a : Nat} (hs : IsSt a) : SH h (a + 8) = .inl 14 := by rcases hs with rfl | rfl | rfl | rfl | rfl | rfl <;> rfl
theorem shL_set (h : Nat → Nat) (jj r : Nat) : shL (fun j => if j = jj then r else h j) = (shL h).set 19 (.inr (.inl (false, 4, fun j => some (if j = jj then r else h j)))) := rfl
theorem SH_set (h : Nat → Nat) (jj r : Nat) : (fun a9 => if a9 = 19 then .inr (.inl (false, 4, fun j9 => if j9 = jj then some r else some (h j9))) else SH h a9) = SH (fun j => if j = jj then r else h j) := by
  funext a
  unfold SH
  rw [shL_set]
  by_cases ha : a = 19
  · subst ha
    rw [if_pos rfl]
    show _ = (Sum.inr (Sum.inl (false, 4, fun j => some (if j = jj then r else h j))) : zK)
    congr 4
    funext j
    by_cases hj : j = jj
    · rw [if_pos hj, if_pos hj]
    · rw [if_neg hj, if_neg hj]
  · rw [if_neg ha]
    simp only [List.getD_eq_getElem?_getD, List.getElem?_set_ne (fun q => ha q.symm)]
/-- a truth value as an int -/
def bI (p : Prop) [Decidable p] : Int32 := if p then nI 1 else nI 0
theorem bI_0 {p : Prop} [Decidable p] (h : bI p = 0) : ¬ p := fun hp => by
  unfold bI at h
  rw [if_pos hp] at h
  exact absurd h (by decide)
theorem bI_1 {p : Prop} [Decidable p] (h : ¬ bI p = 0) : p := by
  by_cases hp : p
  · exact hp
  · exfalso
    apply h
    unfold bI
    rw [if_neg hp]
    rfl
theorem bI_t {p : Prop} [Decidable p] (h : p) : bI p = nI 1 := if_pos h
theorem bI_f {p : Prop} [Decidable p] (h : ¬ p) : bI p = nI 0 := if_neg h
theorem bI_01 {p : Prop} [Decidable p] : bI p = 0 ∨ bI p = 1 := by
  by_cases h : p
  · exact Or.inr (if_pos h)
  · exact Or.inl (if_neg h)
theorem nI_neg {n : Nat} (hn : n < 2 ^ 31) : ¬ nI n < 0 := nI_pos hn
theorem vin {x : Int32} {n : Nat} (hn : n < 2 ^ 31) (h1 : ¬ x < 0) (h2 : x < nI n) : ∃ j : Nat, j < n ∧ x = nI j := by
  obtain ⟨j, hj, rfl⟩ := nI_of h1
  exact ⟨j, (nI_ltI hj hn).mp h2, rfl⟩
theorem i32_le {x y : Int32} : x ≤ y ↔ x.toInt ≤ y.toInt := Int32.le_iff_toInt_le
theorem i32_lt {x y : Int32} : x < y ↔ x.toInt < y.toInt := Int32.lt_iff_toInt_lt
theorem i32_eq {x y : Int32} : x = y ↔ x.toInt = y.toInt := ⟨fun h => by rw [h], Int32.toInt_inj.mp⟩
/-- how many of the first n places have p -/
def cnt (p : Nat → Bool) : Nat → Nat
  | 0 => 0
  | n + 1 => cnt p n + (if p n then 1 else 0)
theorem cnt_le (p : Nat → Bool) : ∀ n, cnt p n ≤ n
  | 0 => Nat.le_refl 0
  | n + 1 => by
    have := cnt_le p n
    unfold cnt
    split <;> omega
theorem cnt_congr {p q : Nat → Bool} : ∀ n, (∀ j, j < n → p j = q j) → cnt p n = cnt q n
  | 0, _ => rfl
  | n + 1, h => by
    unfold cnt
    rw [cnt_congr n (fun j hj => h j (by omega)), h n (by omega)]
/-- the sum of the first n -/
def sumI (f : Nat → Int32) : Nat → Int32
  | 0 => 0
  | n + 1 => sumI f n + f n
theorem sumI_congr {f g : Nat → Int32} : ∀ n, (∀ j, j < n → f j = g j) → sumI f n = sumI g n
  | 0, _ => rfl
  | n + 1, h => by
    unfold sumI
    rw [sumI_congr n (fun j hj => h j (by omega)), h n (by omega)]
end
section
/-! the methods of HedgeTreaties$Street: what they read and write, in places of the cells from a on -/
abbrev sF (m : zM) (a t : Nat) : Nat := (m (a + 5) t).toNatClampNeg
abbrev sO (m : zM) (a t : Nat) : Nat := (m (a + 6) t).toNatClampNeg
/-- the street at a has n treaties about hedges -/
def sOk (m : zM) (a n : Nat) : Prop := m a 8 = nI n ∧ n ≤ 14 ∧ ∀ t, t < n → (m (a + 5) t = nI (sF m a t) ∧ sF m a t < 8) ∧ (m (a + 6) t = nI (sO m a t) ∧ sO m a t < 8)
abbrev sNest (m : zM) (a i : Nat) : Prop := m a 9 < m (a + 3) i
def hAft (m : zM) (a i : Nat) (d : Int32) : Int32 := if m (a + 1) i + m (a + 2) i * d < nI 99 then m (a + 1) i + m (a + 2) i * d else nI 99
abbrev sForce (m : zM) (a t : Nat) : Prop := m (a + 8) t ≤ m a 9
abbrev sAbout (m : zM) (a t : Nat) (g : Int32) : Prop := g = -1 ∨ m (a + 5) t = g ∨ m (a + 6) t = g
def slackA (m : zM) (a t : Nat) (d : Int32) : Int32 := hAft m a (sO m a t) d + m (a + 7) t - hAft m a (sF m a t) d
abbrev sBrk (m : zM) (a t : Nat) (d : Int32) : Prop := m (a + 8) t ≤ m a 9 + d ∧ slackA m a t d < 0
set_option maxRecDepth 100000 in
set_option maxHeartbeats 4000000 in
theorem zX1_isNested {G : zG} {l : Launch} {h : Nat → Nat} {m : zM} (a : Nat) (hs : IsSt a) (i : Nat) (hi : i < 8) : zMet G l yX1_isNested mX1_isNested [.ref (G.1 + a), .int (nI i)] (zw h m) (fun r w => r = some (.int (bI (sNest m a i))) ∧ w = zw h m) 0 0 := by
  refine zMet_of [(0, .ref (G.1 + a)), (1, .int (nI i))] (by decide +kernel) rfl (Or.inl rfl) (Nat.le_of_ble_eq_true rfl) rfl ?_
  refine Z_aload_n 1 0 dX1_isNested_0 rfl rfl ?_
  refine Z_getI 4 dX1_isNested_1 rfl fX1_43 (Nat.lt_of_le_of_lt hs.lt (Nat.le_of_ble_eq_true rfl)) (shS hs) rfl ?_
  refine Z_aload_n 5 0 dX1_isNested_4 rfl rfl ?_
  refine Z_getR 8 dX1_isNested_5 rfl fX1_18 (Nat.lt_of_le_of_lt hs.lt (Nat.le_of_ble_eq_true rfl)) (shS hs) rfl ?_
  refine Z_iload_n 9 1 dX1_isNested_8 rfl rfl ?_
  refine Z_ialn 10 dX1_isNested_9 rfl (Nat.lt_of_le_of_lt (Nat.add_le_add_right hs.lt _) (Nat.le_of_ble_eq_true rfl)) (shS2 hs) (by first | assumption | omega) (by decide) ?_
  refine Z_icmp_ge 13 17 dX1_isNested_10 rfl rfl (fun c10 => ?_) (fun c10 => ?_)
  · skip
    refine Z_iconst 18 (nI 0) dX1_isNested_17 rfl rfl ?_
    exact Z_zret dX1_isNested_18 rfl (by first | exact Or.inl rfl | exact Or.inr rfl | exact bI_01) (by first | exact ⟨rfl, rfl⟩ | exact ⟨by rw [bI_t (by first | assumption | (simp only [i32_le, i32_lt, i32_eq] at *; omega))], rfl⟩ | exact ⟨by rw [bI_f (by first | assumption | (simp only [i32_le, i32_lt, i32_eq] at *; omega))], rfl⟩)
  · skip
    refine Z_iconst 14 (nI 1) dX1_isNested_13 rfl rfl ?_
    refine Z_goto 18 dX1_isNested_14 rfl ?_
    exact Z_zret dX1_isNested_18 rfl (by first | exact Or.inl rfl | exact Or.inr rfl | exact bI_01) (by first | exact ⟨rfl, rfl⟩ | exact ⟨by rw [bI_t (by first | assumption | (simp only [i32_le, i32_lt, i32_eq] at *; omega))], rfl⟩ | exact ⟨by rw [bI_f (by first | assumption | (simp only [i32_le, i32_lt, i32_eq] at *; omega))], rfl⟩)

set_option maxRecDepth 100000 in
set_option maxHeartbeats 4000000 in
theorem zX1_isInForce {G : zG} {l : Launch} {h : Nat → Nat} {m : zM} (a : Nat) (hs : IsSt a) (t : Nat) (ht : t < 14) : zMet G l yX1_isInForce mX1_isInForce [.ref (G.1 + a), .int (nI t)] (zw h m) (fun r w => r = some (.int (bI (sForce m a t))) ∧ w = zw h m) 0 0 := by
  refine zMet_of [(0, .ref (G.1 + a)), (1, .int (nI t))] (by decide +kernel) rfl (Or.inl rfl) (Nat.le_of_ble_eq_true rfl) rfl ?_
  refine Z_aload_n 1 0 dX1_isInForce_0 rfl rfl ?_
  refine Z_getR 4 dX1_isInForce_1 rfl fX1_33 (Nat.lt_of_le_of_lt hs.lt (Nat.le_of_ble_eq_true rfl)) (shS hs) rfl ?_
  refine Z_iload_n 5 1 dX1_isInForce_4 rfl rfl ?_
  refine Z_ialn 6 dX1_isInForce_5 rfl (Nat.lt_of_le_of_lt (Nat.add_le_add_right hs.lt _) (Nat.le_of_ble_eq_true rfl)) (shS7 hs) (by first | assumption | omega) (by decide) ?_
  refine Z_aload_n 7 0 dX1_isInForce_6 rfl rfl ?_
  refine Z_getI 10 dX1_isInForce_7 rfl fX1_43 (Nat.lt_of_le_of_lt hs.lt (Nat.le_of_ble_eq_true rfl)) (shS hs) rfl ?_
  refine Z_icmp_gt 13 17 dX1_isInForce_10 rfl rfl (fun c10 => ?_) (fun c10 => ?_)
  · skip
    refine Z_iconst 18 (nI 0) dX1_isInForce_17 rfl rfl ?_
    exact Z_zret dX1_isInForce_18 rfl (by first | exact Or.inl rfl | exact Or.inr rfl | exact bI_01) (by first | exact ⟨rfl, rfl⟩ | exact ⟨by rw [bI_t (by first | assumption | (simp only [i32_le, i32_lt, i32_eq] at *; omega))], rfl⟩ | exact ⟨by rw [bI_f (by first | assumption | (simp only [i32_le, i32_lt, i32_eq] at *; omega))], rfl⟩)
  · skip
    refine Z_iconst 14 (nI 1) dX1_isInForce_13 rfl rfl ?_
    refine Z_goto 18 dX1_isInForce_14 rfl ?_
    exact Z_zret dX1_isInForce_18 rfl (by first | exact Or.inl rfl | exact Or.inr rfl | exact bI_01) (by first | exact ⟨rfl, rfl⟩ | exact ⟨by rw [bI_t (by first | assumption | (simp only [i32_le, i32_lt, i32_eq] at *; omega))], rfl⟩ | exact ⟨by rw [bI_f (by first | assumption | (simp only [i32_le, i32_lt, i32_eq] at *; omega))], rfl⟩)

set_option maxRecDepth 100000 in
set_option maxHeartbeats 4000000 in
theorem zX1_isAbout {G : zG} {l : Launch} {h : Nat → Nat} {m : zM} (a : Nat) (hs : IsSt a) (t : Nat) (ht : t < 14) (g : Int32) : zMet G l yX1_isAbout mX1_isAbout [.ref (G.1 + a), .int (nI t), .int g] (zw h m) (fun r w => r = some (.int (bI (sAbout m a t g))) ∧ w = zw h m) 0 0 := by
  refine zMet_of [(0, .ref (G.1 + a)), (1, .int (nI t)), (2, .int g)] (by decide +kernel) rfl (Or.inl rfl) (Nat.le_of_ble_eq_true rfl) rfl ?_
  refine Z_iload_n 1 2 dX1_isAbout_0 rfl rfl ?_
  refine Z_iconst 2 (-1) dX1_isAbout_1 rfl rfl ?_
  refine Z_icmp_eq 5 25 dX1_isAbout_2 rfl rfl (fun c2 => ?_) (fun c2 => ?_)
  · skip
    refine Z_iconst 26 (nI 1) dX1_isAbout_25 rfl rfl ?_
    refine Z_goto 30 dX1_isAbout_26 rfl ?_
    exact Z_zret dX1_isAbout_30 rfl (by first | exact Or.inl rfl | exact Or.inr rfl | exact bI_01) (by first | exact ⟨by rw [bI_t (Or.inl (by assumption))], rfl⟩ | exact ⟨by rw [bI_t (Or.inr (Or.inl (by assumption)))], rfl⟩ | exact ⟨by rw [bI_t (Or.inr (Or.inr (by simpa using c22)))], rfl⟩ | exact ⟨by rw [bI_f (fun q => by rcases q with q | q | q <;> contradiction)], rfl⟩)
  · skip
    refine Z_aload_n 6 0 dX1_isAbout_5 rfl rfl ?_
    refine Z_getR 9 dX1_isAbout_6 rfl fX1_24 (Nat.lt_of_le_of_lt hs.lt (Nat.le_of_ble_eq_true rfl)) (shS hs) rfl ?_
    refine Z_iload_n 10 1 dX1_isAbout_9 rfl rfl ?_
    refine Z_ialn 11 dX1_isAbout_10 rfl (Nat.lt_of_le_of_lt (Nat.add_le_add_right hs.lt _) (Nat.le_of_ble_eq_true rfl)) (shS4 hs) (by first | assumption | omega) (by decide) ?_
    refine Z_iload_n 12 2 dX1_isAbout_11 rfl rfl ?_
    refine Z_icmp_eq 15 25 dX1_isAbout_12 rfl rfl (fun c12 => ?_) (fun c12 => ?_)
    · skip
      refine Z_iconst 26 (nI 1) dX1_isAbout_25 rfl rfl ?_
      refine Z_goto 30 dX1_isAbout_26 rfl ?_
      exact Z_zret dX1_isAbout_30 rfl (by first | exact Or.inl rfl | exact Or.inr rfl | exact bI_01) (by first | exact ⟨by rw [bI_t (Or.inl (by assumption))], rfl⟩ | exact ⟨by rw [bI_t (Or.inr (Or.inl (by assumption)))], rfl⟩ | exact ⟨by rw [bI_t (Or.inr (Or.inr (by simpa using c22)))], rfl⟩ | exact ⟨by rw [bI_f (fun q => by rcases q with q | q | q <;> contradiction)], rfl⟩)
    · skip
      refine Z_aload_n 16 0 dX1_isAbout_15 rfl rfl ?_
      refine Z_getR 19 dX1_isAbout_16 rfl fX1_27 (Nat.lt_of_le_of_lt hs.lt (Nat.le_of_ble_eq_true rfl)) (shS hs) rfl ?_
      refine Z_iload_n 20 1 dX1_isAbout_19 rfl rfl ?_
      refine Z_ialn 21 dX1_isAbout_20 rfl (Nat.lt_of_le_of_lt (Nat.add_le_add_right hs.lt _) (Nat.le_of_ble_eq_true rfl)) (shS5 hs) (by first | assumption | omega) (by decide) ?_
      refine Z_iload_n 22 2 dX1_isAbout_21 rfl rfl ?_
      refine Z_icmp_ne 25 29 dX1_isAbout_22 rfl rfl (fun c22 => ?_) (fun c22 => ?_)
      · skip
        refine Z_iconst 30 (nI 0) dX1_isAbout_29 rfl rfl ?_
        exact Z_zret dX1_isAbout_30 rfl (by first | exact Or.inl rfl | exact Or.inr rfl | exact bI_01) (by first | exact ⟨by rw [bI_t (Or.inl (by assumption))], rfl⟩ | exact ⟨by rw [bI_t (Or.inr (Or.inl (by assumption)))], rfl⟩ | exact ⟨by rw [bI_t (Or.inr (Or.inr (by simpa using c22)))], rfl⟩ | exact ⟨by rw [bI_f (fun q => by rcases q with q | q | q <;> contradiction)], rfl⟩)
      · skip
        refine Z_iconst 26 (nI 1) dX1_isAbout_25 rfl rfl ?_
        refine Z_goto 30 dX1_isAbout_26 rfl ?_
        exact Z_zret dX1_isAbout_30 rfl (by first | exact Or.inl rfl | exact Or.inr rfl | exact bI_01) (by first | exact ⟨by rw [bI_t (Or.inl (by assumption))], rfl⟩ | exact ⟨by rw [bI_t (Or.inr (Or.inl (by assumption)))], rfl⟩ | exact ⟨by rw [bI_t (Or.inr (Or.inr (by simpa using c22)))], rfl⟩ | exact ⟨by rw [bI_f (fun q => by rcases q with q | q | q <;> contradiction)], rfl⟩)

set_option maxRecDepth 100000 in
set_option maxHeartbeats 4000000 in
theorem zX1_heightAfter {G : zG} {l : Launch} {h : Nat → Nat} {m : zM} (a : Nat) (hs : IsSt a) (i : Nat) (hi : i < 8) (d : Int32) : zMet G l yX1_heightAfter mX1_heightAfter [.ref (G.1 + a), .int (nI i), .int d] (zw h m) (fun r w => r = some (.int (hAft m a i d)) ∧ w = zw h m) 0 0 := by
  refine zMet_of [(0, .ref (G.1 + a)), (1, .int (nI i)), (2, .int d)] (by decide +kernel) rfl (Or.inl rfl) (Nat.le_of_ble_eq_true rfl) rfl ?_
  refine Z_bipush 2 (nI 99) dX1_heightAfter_0 rfl rfl ?_
  refine Z_aload_n 3 0 dX1_heightAfter_2 rfl rfl ?_
  refine Z_getR 6 dX1_heightAfter_3 rfl fX1_9 (Nat.lt_of_le_of_lt hs.lt (Nat.le_of_ble_eq_true rfl)) (shS hs) rfl ?_
  refine Z_iload_n 7 1 dX1_heightAfter_6 rfl rfl ?_
  refine Z_ialn 8 dX1_heightAfter_7 rfl (Nat.lt_of_le_of_lt (Nat.add_le_add_right hs.lt _) (Nat.le_of_ble_eq_true rfl)) (shS0 hs) (by first | assumption | omega) (by decide) ?_
  refine Z_aload_n 9 0 dX1_heightAfter_8 rfl rfl ?_
  refine Z_getR 12 dX1_heightAfter_9 rfl fX1_15 (Nat.lt_of_le_of_lt hs.lt (Nat.le_of_ble_eq_true rfl)) (shS hs) rfl ?_
  refine Z_iload_n 13 1 dX1_heightAfter_12 rfl rfl ?_
  refine Z_ialn 14 dX1_heightAfter_13 rfl (Nat.lt_of_le_of_lt (Nat.add_le_add_right hs.lt _) (Nat.le_of_ble_eq_true rfl)) (shS1 hs) (by first | assumption | omega) (by decide) ?_
  refine Z_iload_n 15 2 dX1_heightAfter_14 rfl rfl ?_
  refine Z_imul 16 dX1_heightAfter_15 rfl ?_
  refine Z_iadd 17 dX1_heightAfter_16 rfl ?_
  refine Z_min 20 dX1_heightAfter_17 rfl qX1_59 kmin ⟨(Nat.le_of_ble_eq_true rfl), (Nat.le_of_ble_eq_true rfl), (Nat.le_of_ble_eq_true rfl), (Nat.le_of_ble_eq_true rfl)⟩ ?_
  exact Z_iret dX1_heightAfter_20 rfl ⟨rfl, rfl⟩

set_option maxRecDepth 100000 in
set_option maxHeartbeats 4000000 in
theorem zX1_slackAfter {G : zG} {l : Launch} {h : Nat → Nat} {m : zM} (a : Nat) (hs : IsSt a) (n : Nat) (hk : sOk m a n) (t : Nat) (ht : t < n) (d : Int32) : zMet G l yX1_slackAfter mX1_slackAfter [.ref (G.1 + a), .int (nI t), .int d] (zw h m) (fun r w => r = some (.int (slackA m a t d)) ∧ w = zw h m) 0 0 := by
  refine zMet_of [(0, .ref (G.1 + a)), (1, .int (nI t)), (2, .int d)] (by decide +kernel) rfl (Or.inl rfl) (Nat.le_of_ble_eq_true rfl) rfl ?_
  obtain ⟨-, hn, hk⟩ := hk
  obtain ⟨⟨ef, hf⟩, ⟨eo, ho⟩⟩ := hk t ht
  have ht9 : t < 14 := by omega
  refine Z_aload_n 1 0 dX1_slackAfter_0 rfl rfl ?_
  refine Z_aload_n 2 0 dX1_slackAfter_1 rfl rfl ?_
  refine Z_getR 5 dX1_slackAfter_2 rfl fX1_27 (Nat.lt_of_le_of_lt hs.lt (Nat.le_of_ble_eq_true rfl)) (shS hs) rfl ?_
  refine Z_iload_n 6 1 dX1_slackAfter_5 rfl rfl ?_
  refine Z_ialn 7 dX1_slackAfter_6 rfl (Nat.lt_of_le_of_lt (Nat.add_le_add_right hs.lt _) (Nat.le_of_ble_eq_true rfl)) (shS5 hs) (by first | assumption | omega) (by decide) ?_
  refine Z_top (congrArg Value.int eo) ?_
  refine Z_iload_n 8 2 dX1_slackAfter_7 rfl rfl ?_
  refine Z_callV 11 [_, _] 1 (zX1_heightAfter a hs _ (by assumption) d) dX1_slackAfter_8 rfl qX1_65 kX1_heightAfter rfl rfl (Nat.lt_of_le_of_lt hs.lt (Nat.le_of_ble_eq_true rfl)) (shS hs) rfl ⟨(Nat.le_of_ble_eq_true rfl), (Nat.le_of_ble_eq_true rfl)⟩ (Nat.le_of_ble_eq_true rfl) ⟨rfl, rfl⟩ ⟨(Nat.le_of_ble_eq_true rfl), (Nat.le_of_ble_eq_true rfl)⟩ (fun r9 w9 hp9 => ?_)
  obtain ⟨rfl, rfl⟩ := hp9
  refine Z_aload_n 12 0 dX1_slackAfter_11 rfl rfl ?_
  refine Z_getR 15 dX1_slackAfter_12 rfl fX1_30 (Nat.lt_of_le_of_lt hs.lt (Nat.le_of_ble_eq_true rfl)) (shS hs) rfl ?_
  refine Z_iload_n 16 1 dX1_slackAfter_15 rfl rfl ?_
  refine Z_ialn 17 dX1_slackAfter_16 rfl (Nat.lt_of_le_of_lt (Nat.add_le_add_right hs.lt _) (Nat.le_of_ble_eq_true rfl)) (shS6 hs) (by first | assumption | omega) (by decide) ?_
  refine Z_iadd 18 dX1_slackAfter_17 rfl ?_
  refine Z_istore_n 19 [(3, _), (0, _), (1, _), (2, _)] dX1_slackAfter_18 rfl (Nat.le_of_ble_eq_true rfl) rfl ?_
  refine Z_iload_n 20 0 dX1_slackAfter_19 rfl rfl ?_
  refine Z_aload_n 21 1 dX1_slackAfter_20 rfl rfl ?_
  refine Z_aload_n 22 1 dX1_slackAfter_21 rfl rfl ?_
  refine Z_getR 25 dX1_slackAfter_22 rfl fX1_24 (Nat.lt_of_le_of_lt hs.lt (Nat.le_of_ble_eq_true rfl)) (shS hs) rfl ?_
  refine Z_iload_n 26 2 dX1_slackAfter_25 rfl rfl ?_
  refine Z_ialn 27 dX1_slackAfter_26 rfl (Nat.lt_of_le_of_lt (Nat.add_le_add_right hs.lt _) (Nat.le_of_ble_eq_true rfl)) (shS4 hs) (by first | assumption | omega) (by decide) ?_
  refine Z_top (congrArg Value.int ef) ?_
  refine Z_iload_n 28 3 dX1_slackAfter_27 rfl rfl ?_
  refine Z_callV 31 [_, _] 1 (zX1_heightAfter a hs _ (by assumption) d) dX1_slackAfter_28 rfl qX1_65 kX1_heightAfter rfl rfl (Nat.lt_of_le_of_lt hs.lt (Nat.le_of_ble_eq_true rfl)) (shS hs) rfl ⟨(Nat.le_of_ble_eq_true rfl), (Nat.le_of_ble_eq_true rfl)⟩ (Nat.le_of_ble_eq_true rfl) ⟨rfl, rfl⟩ ⟨(Nat.le_of_ble_eq_true rfl), (Nat.le_of_ble_eq_true rfl)⟩ (fun r9 w9 hp9 => ?_)
  obtain ⟨rfl, rfl⟩ := hp9
  refine Z_isub 32 dX1_slackAfter_31 rfl ?_
  exact Z_iret dX1_slackAfter_32 rfl ⟨rfl, rfl⟩

set_option maxRecDepth 100000 in
set_option maxHeartbeats 4000000 in
theorem zX1_isBrokenAfter {G : zG} {l : Launch} {h : Nat → Nat} {m : zM} (a : Nat) (hs : IsSt a) (n : Nat) (hk : sOk m a n) (t : Nat) (ht : t < n) (d : Int32) : zMet G l yX1_isBrokenAfter mX1_isBrokenAfter [.ref (G.1 + a), .int (nI t), .int d] (zw h m) (fun r w => r = some (.int (bI (sBrk m a t d))) ∧ w = zw h m) 0 0 := by
  refine zMet_of [(0, .ref (G.1 + a)), (1, .int (nI t)), (2, .int d)] (by decide +kernel) rfl (Or.inl rfl) (Nat.le_of_ble_eq_true rfl) rfl ?_
  have hn := hk.2.1
  have ht9 : t < 14 := by omega
  refine Z_aload_n 1 0 dX1_isBrokenAfter_0 rfl rfl ?_
  refine Z_getR 4 dX1_isBrokenAfter_1 rfl fX1_33 (Nat.lt_of_le_of_lt hs.lt (Nat.le_of_ble_eq_true rfl)) (shS hs) rfl ?_
  refine Z_iload_n 5 1 dX1_isBrokenAfter_4 rfl rfl ?_
  refine Z_ialn 6 dX1_isBrokenAfter_5 rfl (Nat.lt_of_le_of_lt (Nat.add_le_add_right hs.lt _) (Nat.le_of_ble_eq_true rfl)) (shS7 hs) (by first | assumption | omega) (by decide) ?_
  refine Z_aload_n 7 0 dX1_isBrokenAfter_6 rfl rfl ?_
  refine Z_getI 10 dX1_isBrokenAfter_7 rfl fX1_43 (Nat.lt_of_le_of_lt hs.lt (Nat.le_of_ble_eq_true rfl)) (shS hs) rfl ?_
  refine Z_iload_n 11 2 dX1_isBrokenAfter_10 rfl rfl ?_
  refine Z_iadd 12 dX1_isBrokenAfter_11 rfl ?_
  refine Z_icmp_gt 15 28 dX1_isBrokenAfter_12 rfl rfl (fun c12 => ?_) (fun c12 => ?_)
  · skip
    refine Z_iconst 29 (nI 0) dX1_isBrokenAfter_28 rfl rfl ?_
    exact Z_zret dX1_isBrokenAfter_29 rfl (by first | exact Or.inl rfl | exact Or.inr rfl | exact bI_01) (by first | exact ⟨by rw [bI_f (fun q => absurd q.1 (by rw [i32_le]; rw [i32_lt] at c12; omega))], rfl⟩ | exact ⟨by rw [bI_f (fun q => absurd q.2 (by rw [i32_lt]; rw [i32_le] at c21; omega))], rfl⟩ | exact ⟨by rw [bI_t ⟨by rw [i32_le]; rw [i32_lt] at c12; omega, by rw [i32_lt]; rw [i32_le] at c21; omega⟩], rfl⟩)
  · skip
    refine Z_aload_n 16 0 dX1_isBrokenAfter_15 rfl rfl ?_
    refine Z_iload_n 17 1 dX1_isBrokenAfter_16 rfl rfl ?_
    refine Z_iload_n 18 2 dX1_isBrokenAfter_17 rfl rfl ?_
    refine Z_callV 21 [_, _] 1 (zX1_slackAfter a hs n hk t ht d) dX1_isBrokenAfter_18 rfl qX1_75 kX1_slackAfter rfl rfl (Nat.lt_of_le_of_lt hs.lt (Nat.le_of_ble_eq_true rfl)) (shS hs) rfl ⟨(Nat.le_of_ble_eq_true rfl), (Nat.le_of_ble_eq_true rfl)⟩ (Nat.le_of_ble_eq_true rfl) ⟨rfl, rfl⟩ ⟨(Nat.le_of_ble_eq_true rfl), (Nat.le_of_ble_eq_true rfl)⟩ (fun r9 w9 hp9 => ?_)
    obtain ⟨rfl, rfl⟩ := hp9
    refine Z_if_ge 24 28 dX1_isBrokenAfter_21 rfl rfl (fun c21 => ?_) (fun c21 => ?_)
    · skip
      refine Z_iconst 29 (nI 0) dX1_isBrokenAfter_28 rfl rfl ?_
      exact Z_zret dX1_isBrokenAfter_29 rfl (by first | exact Or.inl rfl | exact Or.inr rfl | exact bI_01) (by first | exact ⟨by rw [bI_f (fun q => absurd q.1 (by rw [i32_le]; rw [i32_lt] at c12; omega))], rfl⟩ | exact ⟨by rw [bI_f (fun q => absurd q.2 (by rw [i32_lt]; rw [i32_le] at c21; omega))], rfl⟩ | exact ⟨by rw [bI_t ⟨by rw [i32_le]; rw [i32_lt] at c12; omega, by rw [i32_lt]; rw [i32_le] at c21; omega⟩], rfl⟩)
    · skip
      refine Z_iconst 25 (nI 1) dX1_isBrokenAfter_24 rfl rfl ?_
      refine Z_goto 29 dX1_isBrokenAfter_25 rfl ?_
      exact Z_zret dX1_isBrokenAfter_29 rfl (by first | exact Or.inl rfl | exact Or.inr rfl | exact bI_01) (by first | exact ⟨by rw [bI_f (fun q => absurd q.1 (by rw [i32_le]; rw [i32_lt] at c12; omega))], rfl⟩ | exact ⟨by rw [bI_f (fun q => absurd q.2 (by rw [i32_lt]; rw [i32_le] at c21; omega))], rfl⟩ | exact ⟨by rw [bI_t ⟨by rw [i32_le]; rw [i32_lt] at c12; omega, by rw [i32_lt]; rw [i32_le] at c21; omega⟩], rfl⟩)

set_option maxRecDepth 100000 in
set_option maxHeartbeats 4000000 in
theorem zX1_isBroken {G : zG} {l : Launch} {h : Nat → Nat} {m : zM} (a : Nat) (hs : IsSt a) (n : Nat) (hk : sOk m a n) (t : Nat) (ht : t < n) : zMet G l yX1_isBroken mX1_isBroken [.ref (G.1 + a), .int (nI t)] (zw h m) (fun r w => r = some (.int (bI (sBrk m a t (nI 0)))) ∧ w = zw h m) 0 0 := by
  refine zMet_of [(0, .ref (G.1 + a)), (1, .int (nI t))] (by decide +kernel) rfl (Or.inl rfl) (Nat.le_of_ble_eq_true rfl) rfl ?_
  refine Z_aload_n 1 0 dX1_isBroken_0 rfl rfl ?_
  refine Z_iload_n 2 1 dX1_isBroken_1 rfl rfl ?_
  refine Z_iconst 3 (nI 0) dX1_isBroken_2 rfl rfl ?_
  refine Z_callV 6 [_, _] 1 (zX1_isBrokenAfter a hs n hk t ht (nI 0)) dX1_isBroken_3 rfl qX1_78 kX1_isBrokenAfter rfl rfl (Nat.lt_of_le_of_lt hs.lt (Nat.le_of_ble_eq_true rfl)) (shS hs) rfl ⟨(Nat.le_of_ble_eq_true rfl), (Nat.le_of_ble_eq_true rfl)⟩ (Nat.le_of_ble_eq_true rfl) ⟨rfl, rfl⟩ ⟨(Nat.le_of_ble_eq_true rfl), (Nat.le_of_ble_eq_true rfl)⟩ (fun r9 w9 hp9 => ?_)
  obtain ⟨rfl, rfl⟩ := hp9
  exact Z_zret dX1_isBroken_6 rfl (by first | exact Or.inl rfl | exact Or.inr rfl | exact bI_01) ⟨rfl, rfl⟩

theorem cnt_t {p : Nat → Bool} {i : Nat} (hp : p i = true) : nI (cnt p i) + nI 1 = nI (cnt p (i + 1)) := by
  rw [nI_add]
  unfold cnt
  rw [if_pos hp]
  cases i <;> rfl
theorem cnt_f {p : Nat → Bool} {i : Nat} (hp : p i = false) : nI (cnt p i) + nI 0 = nI (cnt p (i + 1)) := by
  rw [nI_add]
  unfold cnt
  rw [if_neg (by rw [hp]; decide)]
  cases i <;> rfl
set_option maxRecDepth 100000 in
set_option maxHeartbeats 4000000 in
theorem lX1_countNested {G : zG} {l : Launch} {h : Nat → Nat} {m : zM} (a : Nat) (hs : IsSt a) : ∀ (t i : Nat), i + t = 8 → Z G mX1_countNested (fun _ => True) (zN G (fun r w => r = some (.int (nI (cnt (fun j => decide (sNest m a j)) 8))) ∧ w = zw h m) 0 0) l 0 0 (zw h m) 4 [(2, .int (nI i)), (1, .int (nI (cnt (fun j => decide (sNest m a j)) i))), (0, .ref (G.1 + a))] [] := by
  intro t
  induction t with
  | zero =>
    intro i hi
    have e9 : i = 8 := by omega
    subst e9
    refine Z_iload_n 5 0 dX1_countNested_4 rfl rfl ?_
    refine Z_bipush 7 (nI 8) dX1_countNested_5 rfl rfl ?_
    refine Z_icmp_ge 10 32 dX1_countNested_7 rfl rfl (fun c7 => ?_) (fun c7 => absurd (nI_le (Nat.le_refl _) (by omega)) c7)
    refine Z_iload_n 33 1 dX1_countNested_32 rfl rfl ?_
    exact Z_iret dX1_countNested_33 rfl ⟨rfl, rfl⟩
  | succ t ih =>
    intro i hi
    have hlt : i < 8 := by omega
    refine Z_iload_n 5 0 dX1_countNested_4 rfl rfl ?_
    refine Z_bipush 7 (nI 8) dX1_countNested_5 rfl rfl ?_
    refine Z_icmp_ge 10 32 dX1_countNested_7 rfl rfl (fun c7 => absurd c7 (nI_ge hlt (by omega))) (fun c7 => ?_)
    refine Z_iload_n 11 1 dX1_countNested_10 rfl rfl ?_
    refine Z_aload_n 12 2 dX1_countNested_11 rfl rfl ?_
    refine Z_iload_n 13 0 dX1_countNested_12 rfl rfl ?_
    refine Z_callV 16 [_] 1 (zX1_isNested a hs i hlt) dX1_countNested_13 rfl qX1_55 kX1_isNested rfl rfl (Nat.lt_of_le_of_lt hs.lt (Nat.le_of_ble_eq_true rfl)) (shS hs) rfl ⟨(Nat.le_of_ble_eq_true rfl), (Nat.le_of_ble_eq_true rfl)⟩ (Nat.le_of_ble_eq_true rfl) ⟨rfl, rfl⟩ ⟨(Nat.le_of_ble_eq_true rfl), (Nat.le_of_ble_eq_true rfl)⟩ (fun r9 w9 hp9 => ?_)
    obtain ⟨rfl, rfl⟩ := hp9
    refine Z_if_eq 19 23 dX1_countNested_16 rfl rfl (fun c16 => ?_) (fun c16 => ?_)
    · skip
      refine Z_iconst 24 (nI 0) dX1_countNested_23 rfl rfl ?_
      refine Z_iadd 25 dX1_countNested_24 rfl ?_
      refine Z_top (v' := .int (nI (cnt (fun j => decide (sNest m a j)) (i + 1)))) (by first | exact congrArg Value.int (cnt_t (decide_eq_true (bI_1 c16))) | exact congrArg Value.int (cnt_f (decide_eq_false (bI_0 c16)))) ?_
      refine Z_istore_n 26 [(1, _), (2, _), (0, _)] dX1_countNested_25 rfl (Nat.le_of_ble_eq_true rfl) rfl ?_
      refine Z_iinc 29 [(2, _), (1, _), (0, _)] 1 _ dX1_countNested_26 rfl (Nat.le_of_ble_eq_true rfl) rfl (nI_1 _) rfl ?_
      refine Z_goto 4 dX1_countNested_29 rfl ?_
      exact ih (i + 1) (by omega)
    · skip
      refine Z_iconst 20 (nI 1) dX1_countNested_19 rfl rfl ?_
      refine Z_goto 24 dX1_countNested_20 rfl ?_
      refine Z_iadd 25 dX1_countNested_24 rfl ?_
      refine Z_top (v' := .int (nI (cnt (fun j => decide (sNest m a j)) (i + 1)))) (by first | exact congrArg Value.int (cnt_t (decide_eq_true (bI_1 c16))) | exact congrArg Value.int (cnt_f (decide_eq_false (bI_0 c16)))) ?_
      refine Z_istore_n 26 [(1, _), (2, _), (0, _)] dX1_countNested_25 rfl (Nat.le_of_ble_eq_true rfl) rfl ?_
      refine Z_iinc 29 [(2, _), (1, _), (0, _)] 1 _ dX1_countNested_26 rfl (Nat.le_of_ble_eq_true rfl) rfl (nI_1 _) rfl ?_
      refine Z_goto 4 dX1_countNested_29 rfl ?_
      exact ih (i + 1) (by omega)
set_option maxRecDepth 100000 in
set_option maxHeartbeats 4000000 in
theorem zX1_countNested {G : zG} {l : Launch} {h : Nat → Nat} {m : zM} (a : Nat) (hs : IsSt a) : zMet G l yX1_countNested mX1_countNested [.ref (G.1 + a)] (zw h m) (fun r w => r = some (.int (nI (cnt (fun j => decide (sNest m a j)) 8))) ∧ w = zw h m) 0 0 := by
  refine zMet_of [(0, .ref (G.1 + a))] (by decide +kernel) rfl (Or.inl rfl) (Nat.le_of_ble_eq_true rfl) rfl ?_
  refine Z_iconst 1 (nI 0) dX1_countNested_0 rfl rfl ?_
  refine Z_istore_n 2 [(1, _), (0, _)] dX1_countNested_1 rfl (Nat.le_of_ble_eq_true rfl) rfl ?_
  refine Z_iconst 3 (nI 0) dX1_countNested_2 rfl rfl ?_
  refine Z_istore_n 4 [(2, _), (1, _), (0, _)] dX1_countNested_3 rfl (Nat.le_of_ble_eq_true rfl) rfl ?_
  exact lX1_countNested a hs 8 0 (by omega)

set_option maxRecDepth 100000 in
set_option maxHeartbeats 4000000 in
theorem lX1_countInForce {G : zG} {l : Launch} {h : Nat → Nat} {m : zM} (a : Nat) (hs : IsSt a) (n : Nat) (hk : sOk m a n) (g : Int32) : ∀ (t i : Nat), i + t = n → Z G mX1_countInForce (fun _ => True) (zN G (fun r w => r = some (.int (nI (cnt (fun j => decide (sAbout m a j g ∧ sForce m a j)) n))) ∧ w = zw h m) 0 0) l 0 0 (zw h m) 4 [(3, .int (nI i)), (2, .int (nI (cnt (fun j => decide (sAbout m a j g ∧ sForce m a j)) i))), (0, .ref (G.1 + a)), (1, .int g)] [] := by
  intro t
  induction t with
  | zero =>
    intro i hi
    have e9 : i = n := by omega
    subst e9
    have hn14 := hk.2.1
    refine Z_iload_n 5 0 dX1_countInForce_4 rfl rfl ?_
    refine Z_aload_n 6 2 dX1_countInForce_5 rfl rfl ?_
    refine Z_getI 9 dX1_countInForce_6 rfl fX1_40 (Nat.lt_of_le_of_lt hs.lt (Nat.le_of_ble_eq_true rfl)) (shS hs) rfl ?_
    refine Z_top (congrArg Value.int hk.1) ?_
    refine Z_icmp_ge 12 43 dX1_countInForce_9 rfl rfl (fun c9 => ?_) (fun c9 => absurd (nI_le (Nat.le_refl _) (by omega)) c9)
    refine Z_iload_n 44 1 dX1_countInForce_43 rfl rfl ?_
    exact Z_iret dX1_countInForce_44 rfl ⟨rfl, rfl⟩
  | succ t ih =>
    intro i hi
    have hlt : i < n := by omega
    have hn14 := hk.2.1
    refine Z_iload_n 5 0 dX1_countInForce_4 rfl rfl ?_
    refine Z_aload_n 6 2 dX1_countInForce_5 rfl rfl ?_
    refine Z_getI 9 dX1_countInForce_6 rfl fX1_40 (Nat.lt_of_le_of_lt hs.lt (Nat.le_of_ble_eq_true rfl)) (shS hs) rfl ?_
    refine Z_top (congrArg Value.int hk.1) ?_
    refine Z_icmp_ge 12 43 dX1_countInForce_9 rfl rfl (fun c9 => absurd c9 (nI_ge hlt (by omega))) (fun c9 => ?_)
    refine Z_iload_n 13 1 dX1_countInForce_12 rfl rfl ?_
    refine Z_aload_n 14 2 dX1_countInForce_13 rfl rfl ?_
    refine Z_iload_n 15 0 dX1_countInForce_14 rfl rfl ?_
    refine Z_iload_n 16 3 dX1_countInForce_15 rfl rfl ?_
    refine Z_callV 19 [_, _] 1 (zX1_isAbout a hs i (by omega) g) dX1_countInForce_16 rfl qX1_68 kX1_isAbout rfl rfl (Nat.lt_of_le_of_lt hs.lt (Nat.le_of_ble_eq_true rfl)) (shS hs) rfl ⟨(Nat.le_of_ble_eq_true rfl), (Nat.le_of_ble_eq_true rfl)⟩ (Nat.le_of_ble_eq_true rfl) ⟨rfl, rfl⟩ ⟨(Nat.le_of_ble_eq_true rfl), (Nat.le_of_ble_eq_true rfl)⟩ (fun r9 w9 hp9 => ?_)
    obtain ⟨rfl, rfl⟩ := hp9
    refine Z_if_eq 22 34 dX1_countInForce_19 rfl rfl (fun c19 => ?_) (fun c19 => ?_)
    · skip
      refine Z_iconst 35 (nI 0) dX1_countInForce_34 rfl rfl ?_
      refine Z_iadd 36 dX1_countInForce_35 rfl ?_
      refine Z_top (v' := .int (nI (cnt (fun j => decide (sAbout m a j g ∧ sForce m a j)) (i + 1)))) (by first | exact congrArg Value.int (cnt_t (decide_eq_true ⟨bI_1 c19, bI_1 c27⟩)) | exact congrArg Value.int (cnt_f (decide_eq_false (fun q => bI_0 c19 q.1))) | exact congrArg Value.int (cnt_f (decide_eq_false (fun q => bI_0 c27 q.2)))) ?_
      refine Z_istore_n 37 [(2, _), (3, _), (0, _), (1, _)] dX1_countInForce_36 rfl (Nat.le_of_ble_eq_true rfl) rfl ?_
      refine Z_iinc 40 [(3, _), (2, _), (0, _), (1, _)] 1 _ dX1_countInForce_37 rfl (Nat.le_of_ble_eq_true rfl) rfl (nI_1 _) rfl ?_
      refine Z_goto 4 dX1_countInForce_40 rfl ?_
      exact ih (i + 1) (by omega)
    · skip
      refine Z_aload_n 23 2 dX1_countInForce_22 rfl rfl ?_
      refine Z_iload_n 24 0 dX1_countInForce_23 rfl rfl ?_
      refine Z_callV 27 [_] 1 (zX1_isInForce a hs i (by omega)) dX1_countInForce_24 rfl qX1_72 kX1_isInForce rfl rfl (Nat.lt_of_le_of_lt hs.lt (Nat.le_of_ble_eq_true rfl)) (shS hs) rfl ⟨(Nat.le_of_ble_eq_true rfl), (Nat.le_of_ble_eq_true rfl)⟩ (Nat.le_of_ble_eq_true rfl) ⟨rfl, rfl⟩ ⟨(Nat.le_of_ble_eq_true rfl), (Nat.le_of_ble_eq_true rfl)⟩ (fun r9 w9 hp9 => ?_)
      obtain ⟨rfl, rfl⟩ := hp9
      refine Z_if_eq 30 34 dX1_countInForce_27 rfl rfl (fun c27 => ?_) (fun c27 => ?_)
      · skip
        refine Z_iconst 35 (nI 0) dX1_countInForce_34 rfl rfl ?_
        refine Z_iadd 36 dX1_countInForce_35 rfl ?_
        refine Z_top (v' := .int (nI (cnt (fun j => decide (sAbout m a j g ∧ sForce m a j)) (i + 1)))) (by first | exact congrArg Value.int (cnt_t (decide_eq_true ⟨bI_1 c19, bI_1 c27⟩)) | exact congrArg Value.int (cnt_f (decide_eq_false (fun q => bI_0 c19 q.1))) | exact congrArg Value.int (cnt_f (decide_eq_false (fun q => bI_0 c27 q.2)))) ?_
        refine Z_istore_n 37 [(2, _), (3, _), (0, _), (1, _)] dX1_countInForce_36 rfl (Nat.le_of_ble_eq_true rfl) rfl ?_
        refine Z_iinc 40 [(3, _), (2, _), (0, _), (1, _)] 1 _ dX1_countInForce_37 rfl (Nat.le_of_ble_eq_true rfl) rfl (nI_1 _) rfl ?_
        refine Z_goto 4 dX1_countInForce_40 rfl ?_
        exact ih (i + 1) (by omega)
      · skip
        refine Z_iconst 31 (nI 1) dX1_countInForce_30 rfl rfl ?_
        refine Z_goto 35 dX1_countInForce_31 rfl ?_
        refine Z_iadd 36 dX1_countInForce_35 rfl ?_
        refine Z_top (v' := .int (nI (cnt (fun j => decide (sAbout m a j g ∧ sForce m a j)) (i + 1)))) (by first | exact congrArg Value.int (cnt_t (decide_eq_true ⟨bI_1 c19, bI_1 c27⟩)) | exact congrArg Value.int (cnt_f (decide_eq_false (fun q => bI_0 c19 q.1))) | exact congrArg Value.int (cnt_f (decide_eq_false (fun q => bI_0 c27 q.2)))) ?_
        refine Z_istore_n 37 [(2, _), (3, _), (0, _), (1, _)] dX1_countInForce_36 rfl (Nat.le_of_ble_eq_true rfl) rfl ?_
        refine Z_iinc 40 [(3, _), (2, _), (0, _), (1, _)] 1 _ dX1_countInForce_37 rfl (Nat.le_of_ble_eq_true rfl) rfl (nI_1 _) rfl ?_
        refine Z_goto 4 dX1_countInForce_40 rfl ?_
        exact ih (i + 1) (by omega)
set_option maxRecDepth 100000 in
set_option maxHeartbeats 4000000 in
theorem zX1_countInForce {G : zG} {l : Launch} {h : Nat → Nat} {m : zM} (a : Nat) (hs : IsSt a) (n : Nat) (hk : sOk m a n) (g : Int32) : zMet G l yX1_countInForce mX1_countInForce [.ref (G.1 + a), .int g] (zw h m) (fun r w => r = some (.int (nI (cnt (fun j => decide (sAbout m a j g ∧ sForce m a j)) n))) ∧ w = zw h m) 0 0 := by
  refine zMet_of [(0, .ref (G.1 + a)), (1, .int g)] (by decide +kernel) rfl (Or.inl rfl) (Nat.le_of_ble_eq_true rfl) rfl ?_
  have hn14 := hk.2.1
  refine Z_iconst 1 (nI 0) dX1_countInForce_0 rfl rfl ?_
  refine Z_istore_n 2 [(2, _), (0, _), (1, _)] dX1_countInForce_1 rfl (Nat.le_of_ble_eq_true rfl) rfl ?_
  refine Z_iconst 3 (nI 0) dX1_countInForce_2 rfl rfl ?_
  refine Z_istore_n 4 [(3, _), (2, _), (0, _), (1, _)] dX1_countInForce_3 rfl (Nat.le_of_ble_eq_true rfl) rfl ?_
  exact lX1_countInForce a hs n hk g n 0 (by omega)

set_option maxRecDepth 100000 in
set_option maxHeartbeats 4000000 in
theorem lX1_countBroken {G : zG} {l : Launch} {h : Nat → Nat} {m : zM} (a : Nat) (hs : IsSt a) (n : Nat) (hk : sOk m a n) (g d : Int32) : ∀ (t i : Nat), i + t = n → Z G mX1_countBroken (fun _ => True) (zN G (fun r w => r = some (.int (nI (cnt (fun j => decide (sAbout m a j g ∧ sBrk m a j d)) n))) ∧ w = zw h m) 0 0) l 0 0 (zw h m) 5 [(4, .int (nI i)), (3, .int (nI (cnt (fun j => decide (sAbout m a j g ∧ sBrk m a j d)) i))), (0, .ref (G.1 + a)), (1, .int g), (2, .int d)] [] := by
  intro t
  induction t with
  | zero =>
    intro i hi
    have e9 : i = n := by omega
    subst e9
    have hn14 := hk.2.1
    refine Z_iload 7 0 dX1_countBroken_5 rfl rfl ?_
    refine Z_aload_n 8 2 dX1_countBroken_7 rfl rfl ?_
    refine Z_getI 11 dX1_countBroken_8 rfl fX1_40 (Nat.lt_of_le_of_lt hs.lt (Nat.le_of_ble_eq_true rfl)) (shS hs) rfl ?_
    refine Z_top (congrArg Value.int hk.1) ?_
    refine Z_icmp_ge 14 48 dX1_countBroken_11 rfl rfl (fun c11 => ?_) (fun c11 => absurd (nI_le (Nat.le_refl _) (by omega)) c11)
    refine Z_iload_n 49 1 dX1_countBroken_48 rfl rfl ?_
    exact Z_iret dX1_countBroken_49 rfl ⟨rfl, rfl⟩
  | succ t ih =>
    intro i hi
    have hlt : i < n := by omega
    have hn14 := hk.2.1
    refine Z_iload 7 0 dX1_countBroken_5 rfl rfl ?_
    refine Z_aload_n 8 2 dX1_countBroken_7 rfl rfl ?_
    refine Z_getI 11 dX1_countBroken_8 rfl fX1_40 (Nat.lt_of_le_of_lt hs.lt (Nat.le_of_ble_eq_true rfl)) (shS hs) rfl ?_
    refine Z_top (congrArg Value.int hk.1) ?_
    refine Z_icmp_ge 14 48 dX1_countBroken_11 rfl rfl (fun c11 => absurd c11 (nI_ge hlt (by omega))) (fun c11 => ?_)
    refine Z_iload_n 15 1 dX1_countBroken_14 rfl rfl ?_
    refine Z_aload_n 16 2 dX1_countBroken_15 rfl rfl ?_
    refine Z_iload 18 0 dX1_countBroken_16 rfl rfl ?_
    refine Z_iload_n 19 3 dX1_countBroken_18 rfl rfl ?_
    refine Z_callV 22 [_, _] 1 (zX1_isAbout a hs i (by omega) g) dX1_countBroken_19 rfl qX1_68 kX1_isAbout rfl rfl (Nat.lt_of_le_of_lt hs.lt (Nat.le_of_ble_eq_true rfl)) (shS hs) rfl ⟨(Nat.le_of_ble_eq_true rfl), (Nat.le_of_ble_eq_true rfl)⟩ (Nat.le_of_ble_eq_true rfl) ⟨rfl, rfl⟩ ⟨(Nat.le_of_ble_eq_true rfl), (Nat.le_of_ble_eq_true rfl)⟩ (fun r9 w9 hp9 => ?_)
    obtain ⟨rfl, rfl⟩ := hp9
    refine Z_if_eq 25 39 dX1_countBroken_22 rfl rfl (fun c22 => ?_) (fun c22 => ?_)
    · skip
      refine Z_iconst 40 (nI 0) dX1_countBroken_39 rfl rfl ?_
      refine Z_iadd 41 dX1_countBroken_40 rfl ?_
      refine Z_top (v' := .int (nI (cnt (fun j => decide (sAbout m a j g ∧ sBrk m a j d)) (i + 1)))) (by first | exact congrArg Value.int (cnt_t (decide_eq_true ⟨bI_1 c22, bI_1 c32⟩)) | exact congrArg Value.int (cnt_f (decide_eq_false (fun q => bI_0 c22 q.1))) | exact congrArg Value.int (cnt_f (decide_eq_false (fun q => bI_0 c32 q.2)))) ?_
      refine Z_istore_n 42 [(3, _), (4, _), (0, _), (1, _), (2, _)] dX1_countBroken_41 rfl (Nat.le_of_ble_eq_true rfl) rfl ?_
      refine Z_iinc 45 [(4, _), (3, _), (0, _), (1, _), (2, _)] 1 _ dX1_countBroken_42 rfl (Nat.le_of_ble_eq_true rfl) rfl (nI_1 _) rfl ?_
      refine Z_goto 5 dX1_countBroken_45 rfl ?_
      exact ih (i + 1) (by omega)
    · skip
      refine Z_aload_n 26 2 dX1_countBroken_25 rfl rfl ?_
      refine Z_iload 28 0 dX1_countBroken_26 rfl rfl ?_
      refine Z_iload_n 29 4 dX1_countBroken_28 rfl rfl ?_
      refine Z_callV 32 [_, _] 1 (zX1_isBrokenAfter a hs n hk i hlt d) dX1_countBroken_29 rfl qX1_78 kX1_isBrokenAfter rfl rfl (Nat.lt_of_le_of_lt hs.lt (Nat.le_of_ble_eq_true rfl)) (shS hs) rfl ⟨(Nat.le_of_ble_eq_true rfl), (Nat.le_of_ble_eq_true rfl)⟩ (Nat.le_of_ble_eq_true rfl) ⟨rfl, rfl⟩ ⟨(Nat.le_of_ble_eq_true rfl), (Nat.le_of_ble_eq_true rfl)⟩ (fun r9 w9 hp9 => ?_)
      obtain ⟨rfl, rfl⟩ := hp9
      refine Z_if_eq 35 39 dX1_countBroken_32 rfl rfl (fun c32 => ?_) (fun c32 => ?_)
      · skip
        refine Z_iconst 40 (nI 0) dX1_countBroken_39 rfl rfl ?_
        refine Z_iadd 41 dX1_countBroken_40 rfl ?_
        refine Z_top (v' := .int (nI (cnt (fun j => decide (sAbout m a j g ∧ sBrk m a j d)) (i + 1)))) (by first | exact congrArg Value.int (cnt_t (decide_eq_true ⟨bI_1 c22, bI_1 c32⟩)) | exact congrArg Value.int (cnt_f (decide_eq_false (fun q => bI_0 c22 q.1))) | exact congrArg Value.int (cnt_f (decide_eq_false (fun q => bI_0 c32 q.2)))) ?_
        refine Z_istore_n 42 [(3, _), (4, _), (0, _), (1, _), (2, _)] dX1_countBroken_41 rfl (Nat.le_of_ble_eq_true rfl) rfl ?_
        refine Z_iinc 45 [(4, _), (3, _), (0, _), (1, _), (2, _)] 1 _ dX1_countBroken_42 rfl (Nat.le_of_ble_eq_true rfl) rfl (nI_1 _) rfl ?_
        refine Z_goto 5 dX1_countBroken_45 rfl ?_
        exact ih (i + 1) (by omega)
      · skip
        refine Z_iconst 36 (nI 1) dX1_countBroken_35 rfl rfl ?_
        refine Z_goto 40 dX1_countBroken_36 rfl ?_
        refine Z_iadd 41 dX1_countBroken_40 rfl ?_
        refine Z_top (v' := .int (nI (cnt (fun j => decide (sAbout m a j g ∧ sBrk m a j d)) (i + 1)))) (by first | exact congrArg Value.int (cnt_t (decide_eq_true ⟨bI_1 c22, bI_1 c32⟩)) | exact congrArg Value.int (cnt_f (decide_eq_false (fun q => bI_0 c22 q.1))) | exact congrArg Value.int (cnt_f (decide_eq_false (fun q => bI_0 c32 q.2)))) ?_
        refine Z_istore_n 42 [(3, _), (4, _), (0, _), (1, _), (2, _)] dX1_countBroken_41 rfl (Nat.le_of_ble_eq_true rfl) rfl ?_
        refine Z_iinc 45 [(4, _), (3, _), (0, _), (1, _), (2, _)] 1 _ dX1_countBroken_42 rfl (Nat.le_of_ble_eq_true rfl) rfl (nI_1 _) rfl ?_
        refine Z_goto 5 dX1_countBroken_45 rfl ?_
        exact ih (i + 1) (by omega)
set_option maxRecDepth 100000 in
set_option maxHeartbeats 4000000 in
theorem zX1_countBroken {G : zG} {l : Launch} {h : Nat → Nat} {m : zM} (a : Nat) (hs : IsSt a) (n : Nat) (hk : sOk m a n) (g d : Int32) : zMet G l yX1_countBroken mX1_countBroken [.ref (G.1 + a), .int g, .int d] (zw h m) (fun r w => r = some (.int (nI (cnt (fun j => decide (sAbout m a j g ∧ sBrk m a j d)) n))) ∧ w = zw h m) 0 0 := by
  refine zMet_of [(0, .ref (G.1 + a)), (1, .int g), (2, .int d)] (by decide +kernel) rfl (Or.inl rfl) (Nat.le_of_ble_eq_true rfl) rfl ?_
  have hn14 := hk.2.1
  refine Z_iconst 1 (nI 0) dX1_countBroken_0 rfl rfl ?_
  refine Z_istore_n 2 [(3, _), (0, _), (1, _), (2, _)] dX1_countBroken_1 rfl (Nat.le_of_ble_eq_true rfl) rfl ?_
  refine Z_iconst 3 (nI 0) dX1_countBroken_2 rfl rfl ?_
  refine Z_istore 5 [(4, _), (3, _), (0, _), (1, _), (2, _)] dX1_countBroken_3 rfl (Nat.le_of_ble_eq_true rfl) rfl ?_
  exact lX1_countBroken a hs n hk g d n 0 (by omega)

set_option maxRecDepth 100000 in
set_option maxHeartbeats 4000000 in
theorem lX1_heightsAfter {G : zG} {l : Launch} {h : Nat → Nat} {m : zM} (a : Nat) (hs : IsSt a) (d : Int32) : ∀ (t i : Nat), i + t = 8 → Z G mX1_heightsAfter (fun _ => True) (zN G (fun r w => r = some (.int (sumI (fun i => hAft m a i d) 8)) ∧ w = zw h m) 0 0) l 0 0 (zw h m) 4 [(3, .int (nI i)), (2, .int (sumI (fun i => hAft m a i d) i)), (0, .ref (G.1 + a)), (1, .int d)] [] := by
  intro t
  induction t with
  | zero =>
    intro i hi
    have e9 : i = 8 := by omega
    subst e9
    refine Z_iload_n 5 0 dX1_heightsAfter_4 rfl rfl ?_
    refine Z_bipush 7 (nI 8) dX1_heightsAfter_5 rfl rfl ?_
    refine Z_icmp_ge 10 25 dX1_heightsAfter_7 rfl rfl (fun c7 => ?_) (fun c7 => absurd (nI_le (Nat.le_refl _) (by omega)) c7)
    refine Z_iload_n 26 1 dX1_heightsAfter_25 rfl rfl ?_
    exact Z_iret dX1_heightsAfter_26 rfl ⟨rfl, rfl⟩
  | succ t ih =>
    intro i hi
    have hlt : i < 8 := by omega
    refine Z_iload_n 5 0 dX1_heightsAfter_4 rfl rfl ?_
    refine Z_bipush 7 (nI 8) dX1_heightsAfter_5 rfl rfl ?_
    refine Z_icmp_ge 10 25 dX1_heightsAfter_7 rfl rfl (fun c7 => absurd c7 (nI_ge hlt (by omega))) (fun c7 => ?_)
    refine Z_iload_n 11 1 dX1_heightsAfter_10 rfl rfl ?_
    refine Z_aload_n 12 2 dX1_heightsAfter_11 rfl rfl ?_
    refine Z_iload_n 13 0 dX1_heightsAfter_12 rfl rfl ?_
    refine Z_iload_n 14 3 dX1_heightsAfter_13 rfl rfl ?_
    refine Z_callV 17 [_, _] 1 (zX1_heightAfter a hs i hlt d) dX1_heightsAfter_14 rfl qX1_65 kX1_heightAfter rfl rfl (Nat.lt_of_le_of_lt hs.lt (Nat.le_of_ble_eq_true rfl)) (shS hs) rfl ⟨(Nat.le_of_ble_eq_true rfl), (Nat.le_of_ble_eq_true rfl)⟩ (Nat.le_of_ble_eq_true rfl) ⟨rfl, rfl⟩ ⟨(Nat.le_of_ble_eq_true rfl), (Nat.le_of_ble_eq_true rfl)⟩ (fun r9 w9 hp9 => ?_)
    obtain ⟨rfl, rfl⟩ := hp9
    refine Z_iadd 18 dX1_heightsAfter_17 rfl ?_
    refine Z_istore_n 19 [(2, _), (3, _), (0, _), (1, _)] dX1_heightsAfter_18 rfl (Nat.le_of_ble_eq_true rfl) rfl ?_
    refine Z_iinc 22 [(3, _), (2, _), (0, _), (1, _)] 1 _ dX1_heightsAfter_19 rfl (Nat.le_of_ble_eq_true rfl) rfl (nI_1 _) rfl ?_
    refine Z_goto 4 dX1_heightsAfter_22 rfl ?_
    exact ih (i + 1) (by omega)

set_option maxRecDepth 100000 in
set_option maxHeartbeats 4000000 in
theorem zX1_heightsAfter {G : zG} {l : Launch} {h : Nat → Nat} {m : zM} (a : Nat) (hs : IsSt a) (d : Int32) : zMet G l yX1_heightsAfter mX1_heightsAfter [.ref (G.1 + a), .int d] (zw h m) (fun r w => r = some (.int (sumI (fun i => hAft m a i d) 8)) ∧ w = zw h m) 0 0 := by
  refine zMet_of [(0, .ref (G.1 + a)), (1, .int d)] (by decide +kernel) rfl (Or.inl rfl) (Nat.le_of_ble_eq_true rfl) rfl ?_
  refine Z_iconst 1 (nI 0) dX1_heightsAfter_0 rfl rfl ?_
  refine Z_istore_n 2 [(2, _), (0, _), (1, _)] dX1_heightsAfter_1 rfl (Nat.le_of_ble_eq_true rfl) rfl ?_
  refine Z_iconst 3 (nI 0) dX1_heightsAfter_2 rfl rfl ?_
  refine Z_istore_n 4 [(3, _), (2, _), (0, _), (1, _)] dX1_heightsAfter_3 rfl (Nat.le_of_ble_eq_true rfl) rfl ?_
  exact lX1_heightsAfter a hs d 8 0 (by omega)

def pdM (m : zM) (a i : Nat) : zM := fun q k => if q = a + 1 ∧ k < i then hAft m a k (nI 1) else m q k
theorem pdM_step (m : zM) (a i : Nat) : up2 (pdM m a i) (a + 1) i (hAft (pdM m a i) a i (nI 1)) = pdM m a (i + 1) := by
  have e : hAft (pdM m a i) a i (nI 1) = hAft m a i (nI 1) := by simp [hAft, pdM]
  rw [e]
  funext q k
  unfold up2 pdM
  by_cases h1 : q = a + 1
  · subst h1
    by_cases h2 : k = i
    · subst h2
      simp
    · by_cases h3 : k < i
      · simp [h2, h3, Nat.lt_succ_of_lt h3]
      · have h4 : ¬ k < i + 1 := by omega
        simp [h2, h3, h4]
  · simp [h1]
def dayM (m : zM) (a : Nat) : zM := up2 (pdM m a 8) a 9 (m a 9 + nI 1)
set_option maxRecDepth 100000 in
set_option maxHeartbeats 4000000 in
theorem lX1_passDay {G : zG} {l : Launch} {h : Nat → Nat} {m : zM} (a : Nat) (hs : IsSt a) : ∀ (t i : Nat), i + t = 8 → Z G mX1_passDay (fun _ => True) (zN G (fun r w => r = none ∧ w = zw h (dayM m a)) 0 0) l 0 0 (zw h (pdM m a i)) 2 [(1, .int (nI i)), (0, .ref (G.1 + a))] [] := by
  intro t
  induction t with
  | zero =>
    intro i hi
    have e9 : i = 8 := by omega
    subst e9
    refine Z_iload_n 3 0 dX1_passDay_2 rfl rfl ?_
    refine Z_bipush 5 (nI 8) dX1_passDay_3 rfl rfl ?_
    refine Z_icmp_ge 8 26 dX1_passDay_5 rfl rfl (fun c5 => ?_) (fun c5 => absurd (nI_le (Nat.le_refl _) (by omega)) c5)
    refine Z_aload_n 27 1 dX1_passDay_26 rfl rfl ?_
    refine Z_dup 28 dX1_passDay_27 rfl rfl ?_
    refine Z_getI 31 dX1_passDay_28 rfl fX1_43 (Nat.lt_of_le_of_lt hs.lt (Nat.le_of_ble_eq_true rfl)) (shS hs) rfl ?_
    refine Z_iconst 32 (nI 1) dX1_passDay_31 rfl rfl ?_
    refine Z_iadd 33 dX1_passDay_32 rfl ?_
    refine Z_putI 36 .int dX1_passDay_33 rfl fX1_43 ft_1_9 (Nat.lt_of_le_of_lt hs.lt (Nat.le_of_ble_eq_true rfl)) (shS hs) rfl rfl rfl ?_
    exact Z_vret dX1_passDay_36 rfl ⟨rfl, by unfold dayM; simp [pdM, up2]⟩
  | succ t ih =>
    intro i hi
    have hlt : i < 8 := by omega
    refine Z_iload_n 3 0 dX1_passDay_2 rfl rfl ?_
    refine Z_bipush 5 (nI 8) dX1_passDay_3 rfl rfl ?_
    refine Z_icmp_ge 8 26 dX1_passDay_5 rfl rfl (fun c5 => absurd c5 (nI_ge hlt (by omega))) (fun c5 => ?_)
    refine Z_aload_n 9 1 dX1_passDay_8 rfl rfl ?_
    refine Z_getR 12 dX1_passDay_9 rfl fX1_9 (Nat.lt_of_le_of_lt hs.lt (Nat.le_of_ble_eq_true rfl)) (shS hs) rfl ?_
    refine Z_iload_n 13 0 dX1_passDay_12 rfl rfl ?_
    refine Z_aload_n 14 1 dX1_passDay_13 rfl rfl ?_
    refine Z_iload_n 15 0 dX1_passDay_14 rfl rfl ?_
    refine Z_iconst 16 (nI 1) dX1_passDay_15 rfl rfl ?_
    refine Z_callV 19 [_, _] 1 (zX1_heightAfter (m := pdM m a i) a hs i hlt (nI 1)) dX1_passDay_16 rfl qX1_65 kX1_heightAfter rfl rfl (Nat.lt_of_le_of_lt hs.lt (Nat.le_of_ble_eq_true rfl)) (shS hs) rfl ⟨(Nat.le_of_ble_eq_true rfl), (Nat.le_of_ble_eq_true rfl)⟩ (Nat.le_of_ble_eq_true rfl) ⟨rfl, rfl⟩ ⟨(Nat.le_of_ble_eq_true rfl), (Nat.le_of_ble_eq_true rfl)⟩ (fun r9 w9 hp9 => ?_)
    obtain ⟨rfl, rfl⟩ := hp9
    refine Z_iasn 20 dX1_passDay_19 rfl (Nat.lt_of_le_of_lt (Nat.add_le_add_right hs.lt _) (Nat.le_of_ble_eq_true rfl)) (shS0 hs) (by first | assumption | omega) (by decide) ?_
    rw [pdM_step]
    refine Z_iinc 23 [(1, _), (0, _)] 0 _ dX1_passDay_20 rfl (Nat.le_of_ble_eq_true rfl) rfl (nI_1 _) rfl ?_
    refine Z_goto 2 dX1_passDay_23 rfl ?_
    exact ih (i + 1) (by omega)

set_option maxRecDepth 100000 in
set_option maxHeartbeats 4000000 in
theorem zX1_passDay {G : zG} {l : Launch} {h : Nat → Nat} {m : zM} (a : Nat) (hs : IsSt a) : zMet G l yX1_passDay mX1_passDay [.ref (G.1 + a)] (zw h m) (fun r w => r = none ∧ w = zw h (dayM m a)) 0 0 := by
  refine zMet_of [(0, .ref (G.1 + a))] (by decide +kernel) rfl (Or.inl rfl) (Nat.le_of_ble_eq_true rfl) rfl ?_
  refine Z_iconst 1 (nI 0) dX1_passDay_0 rfl rfl ?_
  refine Z_istore_n 2 [(1, _), (0, _)] dX1_passDay_1 rfl (Nat.le_of_ble_eq_true rfl) rfl ?_
  refine Z_w (w' := zw h (pdM m a 0)) (congrArg (zw h) (by funext q k; simp [pdM])) ?_
  exact lX1_passDay a hs 8 0 (by omega)

def cutM (m : zM) (a i : Nat) (by9 : Int32) : zM := up2 (up2 (up2 m (a + 1) i (m (a + 1) i - by9)) (a + 4) i (m (a + 4) i + by9)) a 13 (m a 13 + nI 1)
set_option maxRecDepth 100000 in
set_option maxHeartbeats 4000000 in
theorem zX1_cutOff {G : zG} {l : Launch} {h : Nat → Nat} {m : zM} (a : Nat) (hs : IsSt a) (i : Nat) (hi : i < 8) (y : Int32) : zMet G l yX1_cutOff mX1_cutOff [.ref (G.1 + a), .int (nI i), .int y] (zw h m) (fun r w => r = none ∧ w = zw h (cutM m a i y)) 0 0 := by
  refine zMet_of [(0, .ref (G.1 + a)), (1, .int (nI i)), (2, .int y)] (by decide +kernel) rfl (Or.inl rfl) (Nat.le_of_ble_eq_true rfl) rfl ?_
  refine Z_aload_n 1 0 dX1_cutOff_0 rfl rfl ?_
  refine Z_getR 4 dX1_cutOff_1 rfl fX1_9 (Nat.lt_of_le_of_lt hs.lt (Nat.le_of_ble_eq_true rfl)) (shS hs) rfl ?_
  refine Z_iload_n 5 1 dX1_cutOff_4 rfl rfl ?_
  refine Z_dup2 6 dX1_cutOff_5 rfl rfl rfl ?_
  refine Z_ialn 7 dX1_cutOff_6 rfl (Nat.lt_of_le_of_lt (Nat.add_le_add_right hs.lt _) (Nat.le_of_ble_eq_true rfl)) (shS0 hs) (by first | assumption | omega) (by decide) ?_
  refine Z_iload_n 8 2 dX1_cutOff_7 rfl rfl ?_
  refine Z_isub 9 dX1_cutOff_8 rfl ?_
  refine Z_iasn 10 dX1_cutOff_9 rfl (Nat.lt_of_le_of_lt (Nat.add_le_add_right hs.lt _) (Nat.le_of_ble_eq_true rfl)) (shS0 hs) (by first | assumption | omega) (by decide) ?_
  refine Z_aload_n 11 0 dX1_cutOff_10 rfl rfl ?_
  refine Z_getR 14 dX1_cutOff_11 rfl fX1_21 (Nat.lt_of_le_of_lt hs.lt (Nat.le_of_ble_eq_true rfl)) (shS hs) rfl ?_
  refine Z_iload_n 15 1 dX1_cutOff_14 rfl rfl ?_
  refine Z_dup2 16 dX1_cutOff_15 rfl rfl rfl ?_
  refine Z_ialn 17 dX1_cutOff_16 rfl (Nat.lt_of_le_of_lt (Nat.add_le_add_right hs.lt _) (Nat.le_of_ble_eq_true rfl)) (shS3 hs) (by first | assumption | omega) (by decide) ?_
  refine Z_iload_n 18 2 dX1_cutOff_17 rfl rfl ?_
  refine Z_iadd 19 dX1_cutOff_18 rfl ?_
  refine Z_iasn 20 dX1_cutOff_19 rfl (Nat.lt_of_le_of_lt (Nat.add_le_add_right hs.lt _) (Nat.le_of_ble_eq_true rfl)) (shS3 hs) (by first | assumption | omega) (by decide) ?_
  refine Z_aload_n 21 0 dX1_cutOff_20 rfl rfl ?_
  refine Z_dup 22 dX1_cutOff_21 rfl rfl ?_
  refine Z_getI 25 dX1_cutOff_22 rfl fX1_52 (Nat.lt_of_le_of_lt hs.lt (Nat.le_of_ble_eq_true rfl)) (shS hs) rfl ?_
  refine Z_iconst 26 (nI 1) dX1_cutOff_25 rfl rfl ?_
  refine Z_iadd 27 dX1_cutOff_26 rfl ?_
  refine Z_putI 30 .int dX1_cutOff_27 rfl fX1_52 ft_1_13 (Nat.lt_of_le_of_lt hs.lt (Nat.le_of_ble_eq_true rfl)) (shS hs) rfl rfl rfl ?_
  exact Z_vret dX1_cutOff_30 rfl ⟨rfl, by unfold cutM; simp [up2]⟩

def addM (m : zM) (a n : Nat) (f o d : Int32) : zM := up2 (up2 (up2 (up2 (up2 (up2 m (a + 5) n f) (a + 6) n o) (a + 7) n d) (a + 8) n (nI 0)) a 8 (nI (n + 1))) a 11 (m a 11 + nI 1)
set_option maxRecDepth 100000 in
set_option maxHeartbeats 4000000 in
theorem zX1_addTreaty {G : zG} {l : Launch} {h : Nat → Nat} {m : zM} (a : Nat) (hs : IsSt a) (n : Nat) (hn : n < 14) (hk : m a 8 = nI n) (f o d : Int32) : zMet G l yX1_addTreaty mX1_addTreaty [.ref (G.1 + a), .int f, .int o, .int d] (zw h m) (fun r w => r = none ∧ w = zw h (addM m a n f o d)) 0 0 := by
  refine zMet_of [(0, .ref (G.1 + a)), (1, .int f), (2, .int o), (3, .int d)] (by decide +kernel) rfl (Or.inl rfl) (Nat.le_of_ble_eq_true rfl) rfl ?_
  refine Z_aload_n 1 0 dX1_addTreaty_0 rfl rfl ?_
  refine Z_getR 4 dX1_addTreaty_1 rfl fX1_24 (Nat.lt_of_le_of_lt hs.lt (Nat.le_of_ble_eq_true rfl)) (shS hs) rfl ?_
  refine Z_aload_n 5 0 dX1_addTreaty_4 rfl rfl ?_
  refine Z_getI 8 dX1_addTreaty_5 rfl fX1_40 (Nat.lt_of_le_of_lt hs.lt (Nat.le_of_ble_eq_true rfl)) (shS hs) rfl ?_
  refine Z_top (v' := .int (nI n)) (congrArg Value.int (by simp [up2, hk])) ?_
  refine Z_iload_n 9 1 dX1_addTreaty_8 rfl rfl ?_
  refine Z_iasn 10 dX1_addTreaty_9 rfl (Nat.lt_of_le_of_lt (Nat.add_le_add_right hs.lt _) (Nat.le_of_ble_eq_true rfl)) (shS4 hs) (by first | assumption | omega) (by decide) ?_
  refine Z_aload_n 11 0 dX1_addTreaty_10 rfl rfl ?_
  refine Z_getR 14 dX1_addTreaty_11 rfl fX1_27 (Nat.lt_of_le_of_lt hs.lt (Nat.le_of_ble_eq_true rfl)) (shS hs) rfl ?_
  refine Z_aload_n 15 0 dX1_addTreaty_14 rfl rfl ?_
  refine Z_getI 18 dX1_addTreaty_15 rfl fX1_40 (Nat.lt_of_le_of_lt hs.lt (Nat.le_of_ble_eq_true rfl)) (shS hs) rfl ?_
  refine Z_top (v' := .int (nI n)) (congrArg Value.int (by simp [up2, hk])) ?_
  refine Z_iload_n 19 2 dX1_addTreaty_18 rfl rfl ?_
  refine Z_iasn 20 dX1_addTreaty_19 rfl (Nat.lt_of_le_of_lt (Nat.add_le_add_right hs.lt _) (Nat.le_of_ble_eq_true rfl)) (shS5 hs) (by first | assumption | omega) (by decide) ?_
  refine Z_aload_n 21 0 dX1_addTreaty_20 rfl rfl ?_
  refine Z_getR 24 dX1_addTreaty_21 rfl fX1_30 (Nat.lt_of_le_of_lt hs.lt (Nat.le_of_ble_eq_true rfl)) (shS hs) rfl ?_
  refine Z_aload_n 25 0 dX1_addTreaty_24 rfl rfl ?_
  refine Z_getI 28 dX1_addTreaty_25 rfl fX1_40 (Nat.lt_of_le_of_lt hs.lt (Nat.le_of_ble_eq_true rfl)) (shS hs) rfl ?_
  refine Z_top (v' := .int (nI n)) (congrArg Value.int (by simp [up2, hk])) ?_
  refine Z_iload_n 29 3 dX1_addTreaty_28 rfl rfl ?_
  refine Z_iasn 30 dX1_addTreaty_29 rfl (Nat.lt_of_le_of_lt (Nat.add_le_add_right hs.lt _) (Nat.le_of_ble_eq_true rfl)) (shS6 hs) (by first | assumption | omega) (by decide) ?_
  refine Z_aload_n 31 0 dX1_addTreaty_30 rfl rfl ?_
  refine Z_getR 34 dX1_addTreaty_31 rfl fX1_33 (Nat.lt_of_le_of_lt hs.lt (Nat.le_of_ble_eq_true rfl)) (shS hs) rfl ?_
  refine Z_aload_n 35 0 dX1_addTreaty_34 rfl rfl ?_
  refine Z_getI 38 dX1_addTreaty_35 rfl fX1_40 (Nat.lt_of_le_of_lt hs.lt (Nat.le_of_ble_eq_true rfl)) (shS hs) rfl ?_
  refine Z_top (v' := .int (nI n)) (congrArg Value.int (by simp [up2, hk])) ?_
  refine Z_iconst 39 (nI 0) dX1_addTreaty_38 rfl rfl ?_
  refine Z_iasn 40 dX1_addTreaty_39 rfl (Nat.lt_of_le_of_lt (Nat.add_le_add_right hs.lt _) (Nat.le_of_ble_eq_true rfl)) (shS7 hs) (by first | assumption | omega) (by decide) ?_
  refine Z_aload_n 41 0 dX1_addTreaty_40 rfl rfl ?_
  refine Z_dup 42 dX1_addTreaty_41 rfl rfl ?_
  refine Z_getI 45 dX1_addTreaty_42 rfl fX1_40 (Nat.lt_of_le_of_lt hs.lt (Nat.le_of_ble_eq_true rfl)) (shS hs) rfl ?_
  refine Z_top (v' := .int (nI n)) (congrArg Value.int (by simp [up2, hk])) ?_
  refine Z_iconst 46 (nI 1) dX1_addTreaty_45 rfl rfl ?_
  refine Z_iadd 47 dX1_addTreaty_46 rfl ?_
  refine Z_top (v' := .int (nI (n + 1))) (congrArg Value.int (nI_1 n)) ?_
  refine Z_putI 50 .int dX1_addTreaty_47 rfl fX1_40 ft_1_8 (Nat.lt_of_le_of_lt hs.lt (Nat.le_of_ble_eq_true rfl)) (shS hs) rfl rfl rfl ?_
  refine Z_aload_n 51 0 dX1_addTreaty_50 rfl rfl ?_
  refine Z_dup 52 dX1_addTreaty_51 rfl rfl ?_
  refine Z_getI 55 dX1_addTreaty_52 rfl fX1_46 (Nat.lt_of_le_of_lt hs.lt (Nat.le_of_ble_eq_true rfl)) (shS hs) rfl ?_
  refine Z_iconst 56 (nI 1) dX1_addTreaty_55 rfl rfl ?_
  refine Z_iadd 57 dX1_addTreaty_56 rfl ?_
  refine Z_putI 60 .int dX1_addTreaty_57 rfl fX1_46 ft_1_11 (Nat.lt_of_le_of_lt hs.lt (Nat.le_of_ble_eq_true rfl)) (shS hs) rfl rfl rfl ?_
  exact Z_vret dX1_addTreaty_60 rfl ⟨rfl, by unfold addM; simp [up2]⟩

def rmM (m : zM) (a t j : Nat) : zM := fun q k => if a + 5 ≤ q ∧ q ≤ a + 8 ∧ t ≤ k ∧ k + 1 < j then m q (k + 1) else m q k
theorem rmM_step (m : zM) (a t j : Nat) (hj : t < j) : up2 (up2 (up2 (up2 (rmM m a t j) (a + 5) (j - 1) (rmM m a t j (a + 5) j)) (a + 6) (j - 1) (rmM m a t j (a + 6) j)) (a + 7) (j - 1) (rmM m a t j (a + 7) j)) (a + 8) (j - 1) (rmM m a t j (a + 8) j) = rmM m a t (j + 1) := by
  have e : ∀ q, rmM m a t j q j = m q j := fun q => by
    unfold rmM
    rw [if_neg (by omega)]
  rw [e, e, e, e]
  funext q k
  unfold up2 rmM
  by_cases h1 : k = j - 1
  · subst h1
    have e1 : j - 1 + 1 = j := by omega
    have h3 : t ≤ j - 1 := by omega
    by_cases h2 : a + 5 ≤ q ∧ q ≤ a + 8
    · have h4 : q = a + 5 ∨ q = a + 6 ∨ q = a + 7 ∨ q = a + 8 := by omega
      rcases h4 with h4 | h4 | h4 | h4 <;> subst h4 <;> simp [e1, h3]
    · have g1 : q ≠ a + 5 := by omega
      have g2 : q ≠ a + 6 := by omega
      have g3 : q ≠ a + 7 := by omega
      have g4 : q ≠ a + 8 := by omega
      simp only [g1, g2, g3, g4, false_and, if_false]
      rw [if_neg (fun z => h2 ⟨z.1, z.2.1⟩), if_neg (fun z => h2 ⟨z.1, z.2.1⟩)]
  · simp only [h1, and_false, if_false]
    by_cases h2 : a + 5 ≤ q ∧ q ≤ a + 8 ∧ t ≤ k ∧ k + 1 < j
    · rw [if_pos h2, if_pos ⟨h2.1, h2.2.1, h2.2.2.1, by omega⟩]
    · rw [if_neg h2, if_neg (fun z => h2 ⟨z.1, z.2.1, z.2.2.1, by omega⟩)]
theorem nI_sub1 {j : Nat} (h : 0 < j) : nI j - nI 1 = nI (j - 1) := by
  obtain ⟨q, rfl⟩ : ∃ q, j = q + 1 := ⟨j - 1, by omega⟩
  exact nI_pred q
set_option maxRecDepth 100000 in
set_option maxHeartbeats 4000000 in
theorem lX1_removeTreaty {G : zG} {l : Launch} {h : Nat → Nat} {m : zM} (a : Nat) (hs : IsSt a) (n t9 : Nat) (ht9 : t9 < n) (hn : n ≤ 14) (hk : m a 8 = nI n) : ∀ (t i : Nat), i + t = n → t9 < i → Z G mX1_removeTreaty (fun _ => True) (zN G (fun r w => r = none ∧ w = zw h (up2 (rmM m a t9 n) a 8 (nI (n - 1)))) 0 0) l 0 0 (zw h (rmM m a t9 i)) 4 [(2, .int (nI i)), (0, .ref (G.1 + a)), (1, .int (nI t9))] [] := by
  intro t
  induction t with
  | zero =>
    intro i hi hy
    have e9 : i = n := by omega
    subst e9
    refine Z_iload_n 5 0 dX1_removeTreaty_4 rfl rfl ?_
    refine Z_aload_n 6 1 dX1_removeTreaty_5 rfl rfl ?_
    refine Z_getI 9 dX1_removeTreaty_6 rfl fX1_40 (Nat.lt_of_le_of_lt hs.lt (Nat.le_of_ble_eq_true rfl)) (shS hs) rfl ?_
    refine Z_top (v' := .int (nI i)) (congrArg Value.int (by unfold rmM; rw [if_neg (by omega)]; exact hk)) ?_
    refine Z_icmp_ge 12 74 dX1_removeTreaty_9 rfl rfl (fun c9 => ?_) (fun c9 => absurd (nI_le (Nat.le_refl _) (by omega)) c9)
    refine Z_aload_n 75 1 dX1_removeTreaty_74 rfl rfl ?_
    refine Z_dup 76 dX1_removeTreaty_75 rfl rfl ?_
    refine Z_getI 79 dX1_removeTreaty_76 rfl fX1_40 (Nat.lt_of_le_of_lt hs.lt (Nat.le_of_ble_eq_true rfl)) (shS hs) rfl ?_
    refine Z_top (v' := .int (nI i)) (congrArg Value.int (by unfold rmM; rw [if_neg (by omega)]; exact hk)) ?_
    refine Z_iconst 80 (nI 1) dX1_removeTreaty_79 rfl rfl ?_
    refine Z_isub 81 dX1_removeTreaty_80 rfl ?_
    refine Z_top (v' := .int (nI (i - 1))) (congrArg Value.int (nI_sub1 (by omega))) ?_
    refine Z_putI 84 .int dX1_removeTreaty_81 rfl fX1_40 ft_1_8 (Nat.lt_of_le_of_lt hs.lt (Nat.le_of_ble_eq_true rfl)) (shS hs) rfl rfl rfl ?_
    exact Z_vret dX1_removeTreaty_84 rfl ⟨rfl, rfl⟩
  | succ t ih =>
    intro i hi hy
    have hlt : i < n := by omega
    refine Z_iload_n 5 0 dX1_removeTreaty_4 rfl rfl ?_
    refine Z_aload_n 6 1 dX1_removeTreaty_5 rfl rfl ?_
    refine Z_getI 9 dX1_removeTreaty_6 rfl fX1_40 (Nat.lt_of_le_of_lt hs.lt (Nat.le_of_ble_eq_true rfl)) (shS hs) rfl ?_
    refine Z_top (v' := .int (nI n)) (congrArg Value.int (by unfold rmM; rw [if_neg (by omega)]; exact hk)) ?_
    refine Z_icmp_ge 12 74 dX1_removeTreaty_9 rfl rfl (fun c9 => absurd c9 (nI_ge hlt (by omega))) (fun c9 => ?_)
    refine Z_aload_n 13 1 dX1_removeTreaty_12 rfl rfl ?_
    refine Z_getR 16 dX1_removeTreaty_13 rfl fX1_24 (Nat.lt_of_le_of_lt hs.lt (Nat.le_of_ble_eq_true rfl)) (shS hs) rfl ?_
    refine Z_iload_n 17 0 dX1_removeTreaty_16 rfl rfl ?_
    refine Z_iconst 18 (nI 1) dX1_removeTreaty_17 rfl rfl ?_
    refine Z_isub 19 dX1_removeTreaty_18 rfl ?_
    refine Z_top (v' := .int (nI (i - 1))) (congrArg Value.int (nI_sub1 (by omega))) ?_
    refine Z_aload_n 20 1 dX1_removeTreaty_19 rfl rfl ?_
    refine Z_getR 23 dX1_removeTreaty_20 rfl fX1_24 (Nat.lt_of_le_of_lt hs.lt (Nat.le_of_ble_eq_true rfl)) (shS hs) rfl ?_
    refine Z_iload_n 24 0 dX1_removeTreaty_23 rfl rfl ?_
    refine Z_ialn 25 dX1_removeTreaty_24 rfl (Nat.lt_of_le_of_lt (Nat.add_le_add_right hs.lt _) (Nat.le_of_ble_eq_true rfl)) (shS4 hs) (show i < 14 by omega) (by decide) ?_
    skip
    refine Z_iasn 26 dX1_removeTreaty_25 rfl (Nat.lt_of_le_of_lt (Nat.add_le_add_right hs.lt _) (Nat.le_of_ble_eq_true rfl)) (shS4 hs) (show i - 1 < 14 by omega) (by decide) ?_
    refine Z_aload_n 27 1 dX1_removeTreaty_26 rfl rfl ?_
    refine Z_getR 30 dX1_removeTreaty_27 rfl fX1_27 (Nat.lt_of_le_of_lt hs.lt (Nat.le_of_ble_eq_true rfl)) (shS hs) rfl ?_
    refine Z_iload_n 31 0 dX1_removeTreaty_30 rfl rfl ?_
    refine Z_iconst 32 (nI 1) dX1_removeTreaty_31 rfl rfl ?_
    refine Z_isub 33 dX1_removeTreaty_32 rfl ?_
    refine Z_top (v' := .int (nI (i - 1))) (congrArg Value.int (nI_sub1 (by omega))) ?_
    refine Z_aload_n 34 1 dX1_removeTreaty_33 rfl rfl ?_
    refine Z_getR 37 dX1_removeTreaty_34 rfl fX1_27 (Nat.lt_of_le_of_lt hs.lt (Nat.le_of_ble_eq_true rfl)) (shS hs) rfl ?_
    refine Z_iload_n 38 0 dX1_removeTreaty_37 rfl rfl ?_
    refine Z_ialn 39 dX1_removeTreaty_38 rfl (Nat.lt_of_le_of_lt (Nat.add_le_add_right hs.lt _) (Nat.le_of_ble_eq_true rfl)) (shS5 hs) (show i < 14 by omega) (by decide) ?_
    skip
    refine Z_iasn 40 dX1_removeTreaty_39 rfl (Nat.lt_of_le_of_lt (Nat.add_le_add_right hs.lt _) (Nat.le_of_ble_eq_true rfl)) (shS5 hs) (show i - 1 < 14 by omega) (by decide) ?_
    refine Z_aload_n 41 1 dX1_removeTreaty_40 rfl rfl ?_
    refine Z_getR 44 dX1_removeTreaty_41 rfl fX1_30 (Nat.lt_of_le_of_lt hs.lt (Nat.le_of_ble_eq_true rfl)) (shS hs) rfl ?_
    refine Z_iload_n 45 0 dX1_removeTreaty_44 rfl rfl ?_
    refine Z_iconst 46 (nI 1) dX1_removeTreaty_45 rfl rfl ?_
    refine Z_isub 47 dX1_removeTreaty_46 rfl ?_
    refine Z_top (v' := .int (nI (i - 1))) (congrArg Value.int (nI_sub1 (by omega))) ?_
    refine Z_aload_n 48 1 dX1_removeTreaty_47 rfl rfl ?_
    refine Z_getR 51 dX1_removeTreaty_48 rfl fX1_30 (Nat.lt_of_le_of_lt hs.lt (Nat.le_of_ble_eq_true rfl)) (shS hs) rfl ?_
    refine Z_iload_n 52 0 dX1_removeTreaty_51 rfl rfl ?_
    refine Z_ialn 53 dX1_removeTreaty_52 rfl (Nat.lt_of_le_of_lt (Nat.add_le_add_right hs.lt _) (Nat.le_of_ble_eq_true rfl)) (shS6 hs) (show i < 14 by omega) (by decide) ?_
    skip
    refine Z_iasn 54 dX1_removeTreaty_53 rfl (Nat.lt_of_le_of_lt (Nat.add_le_add_right hs.lt _) (Nat.le_of_ble_eq_true rfl)) (shS6 hs) (show i - 1 < 14 by omega) (by decide) ?_
    refine Z_aload_n 55 1 dX1_removeTreaty_54 rfl rfl ?_
    refine Z_getR 58 dX1_removeTreaty_55 rfl fX1_33 (Nat.lt_of_le_of_lt hs.lt (Nat.le_of_ble_eq_true rfl)) (shS hs) rfl ?_
    refine Z_iload_n 59 0 dX1_removeTreaty_58 rfl rfl ?_
    refine Z_iconst 60 (nI 1) dX1_removeTreaty_59 rfl rfl ?_
    refine Z_isub 61 dX1_removeTreaty_60 rfl ?_
    refine Z_top (v' := .int (nI (i - 1))) (congrArg Value.int (nI_sub1 (by omega))) ?_
    refine Z_aload_n 62 1 dX1_removeTreaty_61 rfl rfl ?_
    refine Z_getR 65 dX1_removeTreaty_62 rfl fX1_33 (Nat.lt_of_le_of_lt hs.lt (Nat.le_of_ble_eq_true rfl)) (shS hs) rfl ?_
    refine Z_iload_n 66 0 dX1_removeTreaty_65 rfl rfl ?_
    refine Z_ialn 67 dX1_removeTreaty_66 rfl (Nat.lt_of_le_of_lt (Nat.add_le_add_right hs.lt _) (Nat.le_of_ble_eq_true rfl)) (shS7 hs) (show i < 14 by omega) (by decide) ?_
    skip
    refine Z_iasn 68 dX1_removeTreaty_67 rfl (Nat.lt_of_le_of_lt (Nat.add_le_add_right hs.lt _) (Nat.le_of_ble_eq_true rfl)) (shS7 hs) (show i - 1 < 14 by omega) (by decide) ?_
    rw [show up2 (up2 (up2 (up2 (rmM m a t9 i) (a + 5) (i - 1) _) (a + 6) (i - 1) _) (a + 7) (i - 1) _) (a + 8) (i - 1) _ = rmM m a t9 (i + 1) from (by rw [← rmM_step m a t9 i hy]; simp [up2])]
    refine Z_iinc 71 [(2, _), (0, _), (1, _)] 0 _ dX1_removeTreaty_68 rfl (Nat.le_of_ble_eq_true rfl) rfl (nI_1 _) rfl ?_
    refine Z_goto 4 dX1_removeTreaty_71 rfl ?_
    exact ih (i + 1) (by omega) (by omega)

set_option maxRecDepth 100000 in
set_option maxHeartbeats 4000000 in
theorem zX1_removeTreaty {G : zG} {l : Launch} {h : Nat → Nat} {m : zM} (a : Nat) (hs : IsSt a) (n t9 : Nat) (ht9 : t9 < n) (hn : n ≤ 14) (hk : m a 8 = nI n) : zMet G l yX1_removeTreaty mX1_removeTreaty [.ref (G.1 + a), .int (nI t9)] (zw h m) (fun r w => r = none ∧ w = zw h (up2 (rmM m a t9 n) a 8 (nI (n - 1)))) 0 0 := by
  refine zMet_of [(0, .ref (G.1 + a)), (1, .int (nI t9))] (by decide +kernel) rfl (Or.inl rfl) (Nat.le_of_ble_eq_true rfl) rfl ?_
  refine Z_iload_n 1 1 dX1_removeTreaty_0 rfl rfl ?_
  refine Z_iconst 2 (nI 1) dX1_removeTreaty_1 rfl rfl ?_
  refine Z_iadd 3 dX1_removeTreaty_2 rfl ?_
  refine Z_top (v' := .int (nI (t9 + 1))) (congrArg Value.int (nI_1 t9)) ?_
  refine Z_istore_n 4 [(2, _), (0, _), (1, _)] dX1_removeTreaty_3 rfl (Nat.le_of_ble_eq_true rfl) rfl ?_
  refine Z_w (w' := zw h (rmM m a t9 (t9 + 1))) (congrArg (zw h) (by funext q k; unfold rmM; rw [if_neg (by omega)])) ?_
  exact lX1_removeTreaty a hs n t9 ht9 hn hk (n - (t9 + 1)) (t9 + 1) (by omega) (by omega)
end
section
/-! Street.copyFrom -/
def cp1 (m : zM) (a c i : Nat) : zM := fun q k => if a + 1 ≤ q ∧ q ≤ a + 4 ∧ k < i then m (c + (q - a)) k else m q k
def cp2 (m : zM) (a c i : Nat) : zM := fun q k => if a + 5 ≤ q ∧ q ≤ a + 8 ∧ k < i then m (c + (q - a)) k else cp1 m a c 8 q k
/-- the world behind a copy of the street at c into that at a -/
def cpM (m : zM) (a c : Nat) : zM := fun q k => if (a + 1 ≤ q ∧ q ≤ a + 4 ∧ k < 8) ∨ (a + 5 ≤ q ∧ q ≤ a + 8 ∧ k < 14) ∨ (q = a ∧ 8 ≤ k ∧ k ≤ 13) then m (c + (q - a)) k else m q k
theorem IsSt.apart {a c : Nat} (hs : IsSt a) (hc : IsSt c) (h : a ≠ c) : a + 9 ≤ c ∨ c + 9 ≤ a := by
  unfold IsSt at hs hc
  omega
theorem cp1_c {m : zM} {a c i : Nat} (hd : a + 9 ≤ c ∨ c + 9 ≤ a) (j k : Nat) (hj : j ≤ 8) : cp1 m a c i (c + j) k = m (c + j) k := by
  unfold cp1
  rw [if_neg (by omega)]
theorem cp2_c {m : zM} {a c i : Nat} (hd : a + 9 ≤ c ∨ c + 9 ≤ a) (j k : Nat) (hj : j ≤ 8) : cp2 m a c i (c + j) k = m (c + j) k := by
  unfold cp2
  rw [if_neg (by omega), cp1_c hd j k hj]
theorem cp1_step (m : zM) {a c : Nat} (i : Nat) : up2 (up2 (up2 (up2 (cp1 m a c i) (a + 1) i (m (c + 1) i)) (a + 2) i (m (c + 2) i)) (a + 3) i (m (c + 3) i)) (a + 4) i (m (c + 4) i) = cp1 m a c (i + 1) := by
  funext q k
  unfold up2 cp1
  by_cases h1 : k = i
  · subst h1
    by_cases h2 : a + 1 ≤ q ∧ q ≤ a + 4
    · have h4 : q = a + 1 ∨ q = a + 2 ∨ q = a + 3 ∨ q = a + 4 := by omega
      rcases h4 with h4 | h4 | h4 | h4 <;> subst h4 <;> simp [show ∀ z, a + z - a = z by omega]
    · have g1 : q ≠ a + 1 := by omega
      have g2 : q ≠ a + 2 := by omega
      have g3 : q ≠ a + 3 := by omega
      have g4 : q ≠ a + 4 := by omega
      simp only [g1, g2, g3, g4, false_and, if_false]
      rw [if_neg (fun z => h2 ⟨z.1, z.2.1⟩), if_neg (fun z => h2 ⟨z.1, z.2.1⟩)]
  · simp only [h1, and_false, if_false]
    by_cases h2 : a + 1 ≤ q ∧ q ≤ a + 4 ∧ k < i
    · rw [if_pos h2, if_pos ⟨h2.1, h2.2.1, by omega⟩]
    · rw [if_neg h2, if_neg (fun z => h2 ⟨z.1, z.2.1, by omega⟩)]
theorem cp2_step (m : zM) {a c : Nat} (i : Nat) : up2 (up2 (up2 (up2 (cp2 m a c i) (a + 5) i (m (c + 5) i)) (a + 6) i (m (c + 6) i)) (a + 7) i (m (c + 7) i)) (a + 8) i (m (c + 8) i) = cp2 m a c (i + 1) := by
  funext q k
  unfold up2 cp2
  by_cases h1 : k = i
  · subst h1
    by_cases h2 : a + 5 ≤ q ∧ q ≤ a + 8
    · have h4 : q = a + 5 ∨ q = a + 6 ∨ q = a + 7 ∨ q = a + 8 := by omega
      rcases h4 with h4 | h4 | h4 | h4 <;> subst h4 <;> simp [show ∀ z, a + z - a = z by omega]
    · have g1 : q ≠ a + 5 := by omega
      have g2 : q ≠ a + 6 := by omega
      have g3 : q ≠ a + 7 := by omega
      have g4 : q ≠ a + 8 := by omega
      simp only [g1, g2, g3, g4, false_and, if_false]
      rw [if_neg (fun z => h2 ⟨z.1, z.2.1⟩), if_neg (fun z => h2 ⟨z.1, z.2.1⟩)]
  · simp only [h1, and_false, if_false]
    by_cases h2 : a + 5 ≤ q ∧ q ≤ a + 8 ∧ k < i
    · rw [if_pos h2, if_pos ⟨h2.1, h2.2.1, by omega⟩]
    · rw [if_neg h2, if_neg (fun z => h2 ⟨z.1, z.2.1, by omega⟩)]
theorem cpM_end (m : zM) {a c : Nat} : up2 (up2 (up2 (up2 (up2 (up2 (cp2 m a c 14) a 8 (m c 8)) a 9 (m c 9)) a 10 (m c 10)) a 11 (m c 11)) a 12 (m c 12)) a 13 (m c 13) = cpM m a c := by
  funext q k
  unfold up2 cp2 cp1 cpM
  by_cases h0 : q = a
  · subst h0
    by_cases h1 : 8 ≤ k ∧ k ≤ 13
    · have h4 : k = 8 ∨ k = 9 ∨ k = 10 ∨ k = 11 ∨ k = 12 ∨ k = 13 := by omega
      rcases h4 with h4 | h4 | h4 | h4 | h4 | h4 <;> subst h4 <;> simp
    · have g1 : k ≠ 8 := by omega
      have g2 : k ≠ 9 := by omega
      have g3 : k ≠ 10 := by omega
      have g4 : k ≠ 11 := by omega
      have g5 : k ≠ 12 := by omega
      have g6 : k ≠ 13 := by omega
      simp only [g1, g2, g3, g4, g5, g6, and_false, if_false]
      rw [if_neg (by omega), if_neg (by omega), if_neg (by omega)]
  · simp only [h0, false_and, if_false]
    by_cases h2 : a + 5 ≤ q ∧ q ≤ a + 8 ∧ k < 14
    · rw [if_pos h2, if_pos (Or.inr (Or.inl h2))]
    · rw [if_neg h2]
      by_cases h3 : a + 1 ≤ q ∧ q ≤ a + 4 ∧ k < 8
      · rw [if_pos h3, if_pos (Or.inl h3)]
      · rw [if_neg h3, if_neg (fun z => by rcases z with z | z | z <;> omega)]
set_option maxRecDepth 100000 in
set_option maxHeartbeats 4000000 in
theorem lX1_copyFrom2 {G : zG} {l : Launch} {h : Nat → Nat} {m : zM} (a c : Nat) (hs : IsSt a) (hc : IsSt c) (hd : a + 9 ≤ c ∨ c + 9 ≤ a) : ∀ (t i : Nat), i + t = 14 → Z G mX1_copyFrom (fun _ => True) (zN G (fun r w => r = none ∧ w = zw h (cpM m a c)) 0 0) l 0 0 (zw h (cp2 m a c i)) 64 [(2, .int (nI i)), (0, .ref (G.1 + a)), (1, .ref (G.1 + c))] [] := by
  intro t
  induction t with
  | zero =>
    intro i hi
    have e9 : i = 14 := by omega
    subst e9
    have hne : ∀ i j : Nat, i ≤ 8 → j ≤ 8 → ¬ c + i = a + j := fun i j _ _ => by omega
    have hne0 : ¬ c = a := by omega
    refine Z_iload_n 65 0 dX1_copyFrom_64 rfl rfl ?_
    refine Z_bipush 67 (nI 14) dX1_copyFrom_65 rfl rfl ?_
    refine Z_icmp_ge 70 124 dX1_copyFrom_67 rfl rfl (fun c67 => ?_) (fun c67 => absurd (nI_le (Nat.le_refl _) (by omega)) c67)
    refine Z_aload_n 125 1 dX1_copyFrom_124 rfl rfl ?_
    refine Z_aload_n 126 2 dX1_copyFrom_125 rfl rfl ?_
    refine Z_getI 129 dX1_copyFrom_126 rfl fX1_40 (Nat.lt_of_le_of_lt hc.lt (Nat.le_of_ble_eq_true rfl)) (shS hc) rfl ?_
    refine Z_top (v' := .int (m c 8)) (congrArg Value.int (by (try simp only [up2, hne0, false_and, if_false]); exact cp2_c (i := 14) hd 0 8 (by decide))) ?_
    refine Z_putI 132 .int dX1_copyFrom_129 rfl fX1_40 ft_1_8 (Nat.lt_of_le_of_lt hs.lt (Nat.le_of_ble_eq_true rfl)) (shS hs) rfl rfl rfl ?_
    refine Z_aload_n 133 1 dX1_copyFrom_132 rfl rfl ?_
    refine Z_aload_n 134 2 dX1_copyFrom_133 rfl rfl ?_
    refine Z_getI 137 dX1_copyFrom_134 rfl fX1_43 (Nat.lt_of_le_of_lt hc.lt (Nat.le_of_ble_eq_true rfl)) (shS hc) rfl ?_
    refine Z_top (v' := .int (m c 9)) (congrArg Value.int (by (try simp only [up2, hne0, false_and, if_false]); exact cp2_c (i := 14) hd 0 9 (by decide))) ?_
    refine Z_putI 140 .int dX1_copyFrom_137 rfl fX1_43 ft_1_9 (Nat.lt_of_le_of_lt hs.lt (Nat.le_of_ble_eq_true rfl)) (shS hs) rfl rfl rfl ?_
    refine Z_aload_n 141 1 dX1_copyFrom_140 rfl rfl ?_
    refine Z_aload_n 142 2 dX1_copyFrom_141 rfl rfl ?_
    refine Z_getI 145 dX1_copyFrom_142 rfl fX1_36 (Nat.lt_of_le_of_lt hc.lt (Nat.le_of_ble_eq_true rfl)) (shS hc) rfl ?_
    refine Z_top (v' := .int (m c 10)) (congrArg Value.int (by (try simp only [up2, hne0, false_and, if_false]); exact cp2_c (i := 14) hd 0 10 (by decide))) ?_
    refine Z_putI 148 .int dX1_copyFrom_145 rfl fX1_36 ft_1_10 (Nat.lt_of_le_of_lt hs.lt (Nat.le_of_ble_eq_true rfl)) (shS hs) rfl rfl rfl ?_
    refine Z_aload_n 149 1 dX1_copyFrom_148 rfl rfl ?_
    refine Z_aload_n 150 2 dX1_copyFrom_149 rfl rfl ?_
    refine Z_getI 153 dX1_copyFrom_150 rfl fX1_46 (Nat.lt_of_le_of_lt hc.lt (Nat.le_of_ble_eq_true rfl)) (shS hc) rfl ?_
    refine Z_top (v' := .int (m c 11)) (congrArg Value.int (by (try simp only [up2, hne0, false_and, if_false]); exact cp2_c (i := 14) hd 0 11 (by decide))) ?_
    refine Z_putI 156 .int dX1_copyFrom_153 rfl fX1_46 ft_1_11 (Nat.lt_of_le_of_lt hs.lt (Nat.le_of_ble_eq_true rfl)) (shS hs) rfl rfl rfl ?_
    refine Z_aload_n 157 1 dX1_copyFrom_156 rfl rfl ?_
    refine Z_aload_n 158 2 dX1_copyFrom_157 rfl rfl ?_
    refine Z_getI 161 dX1_copyFrom_158 rfl fX1_49 (Nat.lt_of_le_of_lt hc.lt (Nat.le_of_ble_eq_true rfl)) (shS hc) rfl ?_
    refine Z_top (v' := .int (m c 12)) (congrArg Value.int (by (try simp only [up2, hne0, false_and, if_false]); exact cp2_c (i := 14) hd 0 12 (by decide))) ?_
    refine Z_putI 164 .int dX1_copyFrom_161 rfl fX1_49 ft_1_12 (Nat.lt_of_le_of_lt hs.lt (Nat.le_of_ble_eq_true rfl)) (shS hs) rfl rfl rfl ?_
    refine Z_aload_n 165 1 dX1_copyFrom_164 rfl rfl ?_
    refine Z_aload_n 166 2 dX1_copyFrom_165 rfl rfl ?_
    refine Z_getI 169 dX1_copyFrom_166 rfl fX1_52 (Nat.lt_of_le_of_lt hc.lt (Nat.le_of_ble_eq_true rfl)) (shS hc) rfl ?_
    refine Z_top (v' := .int (m c 13)) (congrArg Value.int (by (try simp only [up2, hne0, false_and, if_false]); exact cp2_c (i := 14) hd 0 13 (by decide))) ?_
    refine Z_putI 172 .int dX1_copyFrom_169 rfl fX1_52 ft_1_13 (Nat.lt_of_le_of_lt hs.lt (Nat.le_of_ble_eq_true rfl)) (shS hs) rfl rfl rfl ?_
    rw [cpM_end]
    exact Z_vret dX1_copyFrom_172 rfl ⟨rfl, rfl⟩
  | succ t ih =>
    intro i hi
    have hlt : i < 14 := by omega
    have hne : ∀ i j : Nat, i ≤ 8 → j ≤ 8 → ¬ c + i = a + j := fun i j _ _ => by omega
    have hne0 : ¬ c = a := by omega
    refine Z_iload_n 65 0 dX1_copyFrom_64 rfl rfl ?_
    refine Z_bipush 67 (nI 14) dX1_copyFrom_65 rfl rfl ?_
    refine Z_icmp_ge 70 124 dX1_copyFrom_67 rfl rfl (fun c67 => absurd c67 (nI_ge hlt (by omega))) (fun c67 => ?_)
    refine Z_aload_n 71 1 dX1_copyFrom_70 rfl rfl ?_
    refine Z_getR 74 dX1_copyFrom_71 rfl fX1_24 (Nat.lt_of_le_of_lt hs.lt (Nat.le_of_ble_eq_true rfl)) (shS hs) rfl ?_
    refine Z_iload_n 75 0 dX1_copyFrom_74 rfl rfl ?_
    refine Z_aload_n 76 2 dX1_copyFrom_75 rfl rfl ?_
    refine Z_getR 79 dX1_copyFrom_76 rfl fX1_24 (Nat.lt_of_le_of_lt hc.lt (Nat.le_of_ble_eq_true rfl)) (shS hc) rfl ?_
    refine Z_iload_n 80 0 dX1_copyFrom_79 rfl rfl ?_
    refine Z_ialn 81 dX1_copyFrom_80 rfl (Nat.lt_of_le_of_lt (Nat.add_le_add_right hc.lt _) (Nat.le_of_ble_eq_true rfl)) (shS4 hc) (by omega) (by decide) ?_
    refine Z_top (v' := .int (m (c + 5) i)) (congrArg Value.int (by exact cp2_c hd 5 i (by decide))) ?_
    refine Z_iasn 82 dX1_copyFrom_81 rfl (Nat.lt_of_le_of_lt (Nat.add_le_add_right hs.lt _) (Nat.le_of_ble_eq_true rfl)) (shS4 hs) (by first | assumption | omega) (by decide) ?_
    refine Z_aload_n 83 1 dX1_copyFrom_82 rfl rfl ?_
    refine Z_getR 86 dX1_copyFrom_83 rfl fX1_27 (Nat.lt_of_le_of_lt hs.lt (Nat.le_of_ble_eq_true rfl)) (shS hs) rfl ?_
    refine Z_iload_n 87 0 dX1_copyFrom_86 rfl rfl ?_
    refine Z_aload_n 88 2 dX1_copyFrom_87 rfl rfl ?_
    refine Z_getR 91 dX1_copyFrom_88 rfl fX1_27 (Nat.lt_of_le_of_lt hc.lt (Nat.le_of_ble_eq_true rfl)) (shS hc) rfl ?_
    refine Z_iload_n 92 0 dX1_copyFrom_91 rfl rfl ?_
    refine Z_ialn 93 dX1_copyFrom_92 rfl (Nat.lt_of_le_of_lt (Nat.add_le_add_right hc.lt _) (Nat.le_of_ble_eq_true rfl)) (shS5 hc) (by omega) (by decide) ?_
    refine Z_top (v' := .int (m (c + 6) i)) (congrArg Value.int (by simp only [up2, (show ¬ c + 6 = a + 5 from hne 6 5 (by decide) (by decide)), false_and, if_false]; exact cp2_c hd 6 i (by decide))) ?_
    refine Z_iasn 94 dX1_copyFrom_93 rfl (Nat.lt_of_le_of_lt (Nat.add_le_add_right hs.lt _) (Nat.le_of_ble_eq_true rfl)) (shS5 hs) (by first | assumption | omega) (by decide) ?_
    refine Z_aload_n 95 1 dX1_copyFrom_94 rfl rfl ?_
    refine Z_getR 98 dX1_copyFrom_95 rfl fX1_30 (Nat.lt_of_le_of_lt hs.lt (Nat.le_of_ble_eq_true rfl)) (shS hs) rfl ?_
    refine Z_iload_n 99 0 dX1_copyFrom_98 rfl rfl ?_
    refine Z_aload_n 100 2 dX1_copyFrom_99 rfl rfl ?_
    refine Z_getR 103 dX1_copyFrom_100 rfl fX1_30 (Nat.lt_of_le_of_lt hc.lt (Nat.le_of_ble_eq_true rfl)) (shS hc) rfl ?_
    refine Z_iload_n 104 0 dX1_copyFrom_103 rfl rfl ?_
    refine Z_ialn 105 dX1_copyFrom_104 rfl (Nat.lt_of_le_of_lt (Nat.add_le_add_right hc.lt _) (Nat.le_of_ble_eq_true rfl)) (shS6 hc) (by omega) (by decide) ?_
    refine Z_top (v' := .int (m (c + 7) i)) (congrArg Value.int (by simp only [up2, (show ¬ c + 7 = a + 5 from hne 7 5 (by decide) (by decide)), (show ¬ c + 7 = a + 6 from hne 7 6 (by decide) (by decide)), false_and, if_false]; exact cp2_c hd 7 i (by decide))) ?_
    refine Z_iasn 106 dX1_copyFrom_105 rfl (Nat.lt_of_le_of_lt (Nat.add_le_add_right hs.lt _) (Nat.le_of_ble_eq_true rfl)) (shS6 hs) (by first | assumption | omega) (by decide) ?_
    refine Z_aload_n 107 1 dX1_copyFrom_106 rfl rfl ?_
    refine Z_getR 110 dX1_copyFrom_107 rfl fX1_33 (Nat.lt_of_le_of_lt hs.lt (Nat.le_of_ble_eq_true rfl)) (shS hs) rfl ?_
    refine Z_iload_n 111 0 dX1_copyFrom_110 rfl rfl ?_
    refine Z_aload_n 112 2 dX1_copyFrom_111 rfl rfl ?_
    refine Z_getR 115 dX1_copyFrom_112 rfl fX1_33 (Nat.lt_of_le_of_lt hc.lt (Nat.le_of_ble_eq_true rfl)) (shS hc) rfl ?_
    refine Z_iload_n 116 0 dX1_copyFrom_115 rfl rfl ?_
    refine Z_ialn 117 dX1_copyFrom_116 rfl (Nat.lt_of_le_of_lt (Nat.add_le_add_right hc.lt _) (Nat.le_of_ble_eq_true rfl)) (shS7 hc) (by omega) (by decide) ?_
    refine Z_top (v' := .int (m (c + 8) i)) (congrArg Value.int (by simp only [up2, (show ¬ c + 8 = a + 5 from hne 8 5 (by decide) (by decide)), (show ¬ c + 8 = a + 6 from hne 8 6 (by decide) (by decide)), (show ¬ c + 8 = a + 7 from hne 8 7 (by decide) (by decide)), false_and, if_false]; exact cp2_c hd 8 i (by decide))) ?_
    refine Z_iasn 118 dX1_copyFrom_117 rfl (Nat.lt_of_le_of_lt (Nat.add_le_add_right hs.lt _) (Nat.le_of_ble_eq_true rfl)) (shS7 hs) (by first | assumption | omega) (by decide) ?_
    rw [cp2_step]
    refine Z_iinc 121 [(2, _), (0, _), (1, _)] 0 _ dX1_copyFrom_118 rfl (Nat.le_of_ble_eq_true rfl) rfl (nI_1 _) rfl ?_
    refine Z_goto 64 dX1_copyFrom_121 rfl ?_
    exact ih (i + 1) (by omega)

set_option maxRecDepth 100000 in
set_option maxHeartbeats 4000000 in
theorem lX1_copyFrom1 {G : zG} {l : Launch} {h : Nat → Nat} {m : zM} (a c : Nat) (hs : IsSt a) (hc : IsSt c) (hd : a + 9 ≤ c ∨ c + 9 ≤ a) : ∀ (t i : Nat), i + t = 8 → Z G mX1_copyFrom (fun _ => True) (zN G (fun r w => r = none ∧ w = zw h (cpM m a c)) 0 0) l 0 0 (zw h (cp1 m a c i)) 2 [(2, .int (nI i)), (0, .ref (G.1 + a)), (1, .ref (G.1 + c))] [] := by
  intro t
  induction t with
  | zero =>
    intro i hi
    have e9 : i = 8 := by omega
    subst e9
    have hne : ∀ i j : Nat, i ≤ 8 → j ≤ 8 → ¬ c + i = a + j := fun i j _ _ => by omega
    have hne0 : ¬ c = a := by omega
    refine Z_iload_n 3 0 dX1_copyFrom_2 rfl rfl ?_
    refine Z_bipush 5 (nI 8) dX1_copyFrom_3 rfl rfl ?_
    refine Z_icmp_ge 8 62 dX1_copyFrom_5 rfl rfl (fun c5 => ?_) (fun c5 => absurd (nI_le (Nat.le_refl _) (by omega)) c5)
    refine Z_iconst 63 (nI 0) dX1_copyFrom_62 rfl rfl ?_
    refine Z_istore_n 64 [(2, _), (0, _), (1, _)] dX1_copyFrom_63 rfl (Nat.le_of_ble_eq_true rfl) rfl ?_
    refine Z_w (w' := zw h (cp2 m a c 0)) (congrArg (zw h) (by funext q k; simp [cp2])) ?_
    exact lX1_copyFrom2 a c hs hc hd 14 0 (by omega)
  | succ t ih =>
    intro i hi
    have hlt : i < 8 := by omega
    have hne : ∀ i j : Nat, i ≤ 8 → j ≤ 8 → ¬ c + i = a + j := fun i j _ _ => by omega
    have hne0 : ¬ c = a := by omega
    refine Z_iload_n 3 0 dX1_copyFrom_2 rfl rfl ?_
    refine Z_bipush 5 (nI 8) dX1_copyFrom_3 rfl rfl ?_
    refine Z_icmp_ge 8 62 dX1_copyFrom_5 rfl rfl (fun c5 => absurd c5 (nI_ge hlt (by omega))) (fun c5 => ?_)
    refine Z_aload_n 9 1 dX1_copyFrom_8 rfl rfl ?_
    refine Z_getR 12 dX1_copyFrom_9 rfl fX1_9 (Nat.lt_of_le_of_lt hs.lt (Nat.le_of_ble_eq_true rfl)) (shS hs) rfl ?_
    refine Z_iload_n 13 0 dX1_copyFrom_12 rfl rfl ?_
    refine Z_aload_n 14 2 dX1_copyFrom_13 rfl rfl ?_
    refine Z_getR 17 dX1_copyFrom_14 rfl fX1_9 (Nat.lt_of_le_of_lt hc.lt (Nat.le_of_ble_eq_true rfl)) (shS hc) rfl ?_
    refine Z_iload_n 18 0 dX1_copyFrom_17 rfl rfl ?_
    refine Z_ialn 19 dX1_copyFrom_18 rfl (Nat.lt_of_le_of_lt (Nat.add_le_add_right hc.lt _) (Nat.le_of_ble_eq_true rfl)) (shS0 hc) (by omega) (by decide) ?_
    refine Z_top (v' := .int (m (c + 1) i)) (congrArg Value.int (by exact cp1_c hd 1 i (by decide))) ?_
    refine Z_iasn 20 dX1_copyFrom_19 rfl (Nat.lt_of_le_of_lt (Nat.add_le_add_right hs.lt _) (Nat.le_of_ble_eq_true rfl)) (shS0 hs) (by first | assumption | omega) (by decide) ?_
    refine Z_aload_n 21 1 dX1_copyFrom_20 rfl rfl ?_
    refine Z_getR 24 dX1_copyFrom_21 rfl fX1_15 (Nat.lt_of_le_of_lt hs.lt (Nat.le_of_ble_eq_true rfl)) (shS hs) rfl ?_
    refine Z_iload_n 25 0 dX1_copyFrom_24 rfl rfl ?_
    refine Z_aload_n 26 2 dX1_copyFrom_25 rfl rfl ?_
    refine Z_getR 29 dX1_copyFrom_26 rfl fX1_15 (Nat.lt_of_le_of_lt hc.lt (Nat.le_of_ble_eq_true rfl)) (shS hc) rfl ?_
    refine Z_iload_n 30 0 dX1_copyFrom_29 rfl rfl ?_
    refine Z_ialn 31 dX1_copyFrom_30 rfl (Nat.lt_of_le_of_lt (Nat.add_le_add_right hc.lt _) (Nat.le_of_ble_eq_true rfl)) (shS1 hc) (by omega) (by decide) ?_
    refine Z_top (v' := .int (m (c + 2) i)) (congrArg Value.int (by simp only [up2, (show ¬ c + 2 = a + 1 from hne 2 1 (by decide) (by decide)), false_and, if_false]; exact cp1_c hd 2 i (by decide))) ?_
    refine Z_iasn 32 dX1_copyFrom_31 rfl (Nat.lt_of_le_of_lt (Nat.add_le_add_right hs.lt _) (Nat.le_of_ble_eq_true rfl)) (shS1 hs) (by first | assumption | omega) (by decide) ?_
    refine Z_aload_n 33 1 dX1_copyFrom_32 rfl rfl ?_
    refine Z_getR 36 dX1_copyFrom_33 rfl fX1_18 (Nat.lt_of_le_of_lt hs.lt (Nat.le_of_ble_eq_true rfl)) (shS hs) rfl ?_
    refine Z_iload_n 37 0 dX1_copyFrom_36 rfl rfl ?_
    refine Z_aload_n 38 2 dX1_copyFrom_37 rfl rfl ?_
    refine Z_getR 41 dX1_copyFrom_38 rfl fX1_18 (Nat.lt_of_le_of_lt hc.lt (Nat.le_of_ble_eq_true rfl)) (shS hc) rfl ?_
    refine Z_iload_n 42 0 dX1_copyFrom_41 rfl rfl ?_
    refine Z_ialn 43 dX1_copyFrom_42 rfl (Nat.lt_of_le_of_lt (Nat.add_le_add_right hc.lt _) (Nat.le_of_ble_eq_true rfl)) (shS2 hc) (by omega) (by decide) ?_
    refine Z_top (v' := .int (m (c + 3) i)) (congrArg Value.int (by simp only [up2, (show ¬ c + 3 = a + 1 from hne 3 1 (by decide) (by decide)), (show ¬ c + 3 = a + 2 from hne 3 2 (by decide) (by decide)), false_and, if_false]; exact cp1_c hd 3 i (by decide))) ?_
    refine Z_iasn 44 dX1_copyFrom_43 rfl (Nat.lt_of_le_of_lt (Nat.add_le_add_right hs.lt _) (Nat.le_of_ble_eq_true rfl)) (shS2 hs) (by first | assumption | omega) (by decide) ?_
    refine Z_aload_n 45 1 dX1_copyFrom_44 rfl rfl ?_
    refine Z_getR 48 dX1_copyFrom_45 rfl fX1_21 (Nat.lt_of_le_of_lt hs.lt (Nat.le_of_ble_eq_true rfl)) (shS hs) rfl ?_
    refine Z_iload_n 49 0 dX1_copyFrom_48 rfl rfl ?_
    refine Z_aload_n 50 2 dX1_copyFrom_49 rfl rfl ?_
    refine Z_getR 53 dX1_copyFrom_50 rfl fX1_21 (Nat.lt_of_le_of_lt hc.lt (Nat.le_of_ble_eq_true rfl)) (shS hc) rfl ?_
    refine Z_iload_n 54 0 dX1_copyFrom_53 rfl rfl ?_
    refine Z_ialn 55 dX1_copyFrom_54 rfl (Nat.lt_of_le_of_lt (Nat.add_le_add_right hc.lt _) (Nat.le_of_ble_eq_true rfl)) (shS3 hc) (by omega) (by decide) ?_
    refine Z_top (v' := .int (m (c + 4) i)) (congrArg Value.int (by simp only [up2, (show ¬ c + 4 = a + 1 from hne 4 1 (by decide) (by decide)), (show ¬ c + 4 = a + 2 from hne 4 2 (by decide) (by decide)), (show ¬ c + 4 = a + 3 from hne 4 3 (by decide) (by decide)), false_and, if_false]; exact cp1_c hd 4 i (by decide))) ?_
    refine Z_iasn 56 dX1_copyFrom_55 rfl (Nat.lt_of_le_of_lt (Nat.add_le_add_right hs.lt _) (Nat.le_of_ble_eq_true rfl)) (shS3 hs) (by first | assumption | omega) (by decide) ?_
    rw [cp1_step]
    refine Z_iinc 59 [(2, _), (0, _), (1, _)] 0 _ dX1_copyFrom_56 rfl (Nat.le_of_ble_eq_true rfl) rfl (nI_1 _) rfl ?_
    refine Z_goto 2 dX1_copyFrom_59 rfl ?_
    exact ih (i + 1) (by omega)

set_option maxRecDepth 100000 in
set_option maxHeartbeats 4000000 in
theorem zX1_copyFrom {G : zG} {l : Launch} {h : Nat → Nat} {m : zM} (a c : Nat) (hs : IsSt a) (hc : IsSt c) (hd : a + 9 ≤ c ∨ c + 9 ≤ a) : zMet G l yX1_copyFrom mX1_copyFrom [.ref (G.1 + a), .ref (G.1 + c)] (zw h m) (fun r w => r = none ∧ w = zw h (cpM m a c)) 0 0 := by
  refine zMet_of [(0, .ref (G.1 + a)), (1, .ref (G.1 + c))] (by decide +kernel) rfl (Or.inl rfl) (Nat.le_of_ble_eq_true rfl) rfl ?_
  refine Z_iconst 1 (nI 0) dX1_copyFrom_0 rfl rfl ?_
  refine Z_istore_n 2 [(2, _), (0, _), (1, _)] dX1_copyFrom_1 rfl (Nat.le_of_ble_eq_true rfl) rfl ?_
  refine Z_w (w' := zw h (cp1 m a c 0)) (congrArg (zw h) (by funext q k; simp [cp1])) ?_
  exact lX1_copyFrom1 a c hs hc hd 8 0 (by omega)

/-! HedgeTreaties: tests of arguments, the history -/
theorem bRt {p : Prop} [Decidable p] (h : p) : some (Value.int (nI 1)) = some (Value.int (bI p)) := by rw [bI_t h]
theorem bRf {p : Prop} [Decidable p] (h : ¬ p) : some (Value.int (nI 0)) = some (Value.int (bI p)) := by rw [bI_f h]
abbrev hdg (x : Int32) : Prop := ¬ x < 0 ∧ x < nI 8
abbrev agr (f o d : Int32) : Prop := hdg f ∧ hdg o ∧ ¬ f = o ∧ ¬ d < -30 ∧ ¬ nI 60 < d
set_option maxRecDepth 100000 in
set_option maxHeartbeats 4000000 in
theorem zX3_isHedge {G : zG} {l : Launch} {h : Nat → Nat} {m : zM} (x : Int32) : zMet G l yX3_isHedge mX3_isHedge [.int x] (zw h m) (fun r w => r = some (.int (bI (hdg x))) ∧ w = zw h m) 0 0 := by
  refine zMet_of [(0, .int x)] (by decide +kernel) rfl (Or.inl rfl) (Nat.le_of_ble_eq_true rfl) rfl ?_
  refine Z_iload_n 1 0 dX3_isHedge_0 rfl rfl ?_
  refine Z_if_lt 4 14 dX3_isHedge_1 rfl rfl (fun c1 => ?_) (fun c1 => ?_)
  · skip
    refine Z_iconst 15 (nI 0) dX3_isHedge_14 rfl rfl ?_
    exact Z_zret dX3_isHedge_15 rfl (by first | exact Or.inl rfl | exact Or.inr rfl | exact bI_01) (by first | exact ⟨bRf (fun q => q.1 c1), rfl⟩ | exact ⟨bRf (fun q => absurd q.2 (Int32.not_lt.mpr c7)), rfl⟩ | exact ⟨bRt (⟨c1, Int32.not_le.mp c7⟩), rfl⟩)
  · skip
    refine Z_iload_n 5 0 dX3_isHedge_4 rfl rfl ?_
    refine Z_bipush 7 (nI 8) dX3_isHedge_5 rfl rfl ?_
    refine Z_icmp_ge 10 14 dX3_isHedge_7 rfl rfl (fun c7 => ?_) (fun c7 => ?_)
    · skip
      refine Z_iconst 15 (nI 0) dX3_isHedge_14 rfl rfl ?_
      exact Z_zret dX3_isHedge_15 rfl (by first | exact Or.inl rfl | exact Or.inr rfl | exact bI_01) (by first | exact ⟨bRf (fun q => q.1 c1), rfl⟩ | exact ⟨bRf (fun q => absurd q.2 (Int32.not_lt.mpr c7)), rfl⟩ | exact ⟨bRt (⟨c1, Int32.not_le.mp c7⟩), rfl⟩)
    · skip
      refine Z_iconst 11 (nI 1) dX3_isHedge_10 rfl rfl ?_
      refine Z_goto 15 dX3_isHedge_11 rfl ?_
      exact Z_zret dX3_isHedge_15 rfl (by first | exact Or.inl rfl | exact Or.inr rfl | exact bI_01) (by first | exact ⟨bRf (fun q => q.1 c1), rfl⟩ | exact ⟨bRf (fun q => absurd q.2 (Int32.not_lt.mpr c7)), rfl⟩ | exact ⟨bRt (⟨c1, Int32.not_le.mp c7⟩), rfl⟩)

set_option maxRecDepth 100000 in
set_option maxHeartbeats 4000000 in
theorem zX3_isAgreement {G : zG} {l : Launch} {h : Nat → Nat} {m : zM} (f o d : Int32) : zMet G l yX3_isAgreement mX3_isAgreement [.int f, .int o, .int d] (zw h m) (fun r w => r = some (.int (bI (agr f o d))) ∧ w = zw h m) 0 0 := by
  refine zMet_of [(0, .int f), (1, .int o), (2, .int d)] (by decide +kernel) rfl (Or.inl rfl) (Nat.le_of_ble_eq_true rfl) rfl ?_
  refine Z_iload_n 1 0 dX3_isAgreement_0 rfl rfl ?_
  refine Z_callS 4 [_] (zX3_isHedge _) dX3_isAgreement_1 rfl qX3_37 kX3_isHedge rfl rfl ⟨(Nat.le_of_ble_eq_true rfl), (Nat.le_of_ble_eq_true rfl)⟩ (Nat.le_of_ble_eq_true rfl) ⟨rfl, rfl⟩ ⟨(Nat.le_of_ble_eq_true rfl), (Nat.le_of_ble_eq_true rfl)⟩ (fun r9 w9 hp9 => ?_)
  obtain ⟨rfl, rfl⟩ := hp9
  refine Z_if_eq 7 35 dX3_isAgreement_4 rfl rfl (fun c4 => ?_) (fun c4 => ?_)
  · skip
    refine Z_iconst 36 (nI 0) dX3_isAgreement_35 rfl rfl ?_
    exact Z_zret dX3_isAgreement_36 rfl (by first | exact Or.inl rfl | exact Or.inr rfl | exact bI_01) (by first | exact ⟨bRf (fun q => bI_0 c4 q.1), rfl⟩ | exact ⟨bRf (fun q => bI_0 c11 q.2.1), rfl⟩ | exact ⟨bRf (fun q => q.2.2.1 c16), rfl⟩ | exact ⟨bRf (fun q => q.2.2.2.1 c22), rfl⟩ | exact ⟨bRf (fun q => q.2.2.2.2 c28), rfl⟩ | exact ⟨bRt (⟨bI_1 c4, bI_1 c11, c16, c22, c28⟩), rfl⟩)
  · skip
    refine Z_iload_n 8 1 dX3_isAgreement_7 rfl rfl ?_
    refine Z_callS 11 [_] (zX3_isHedge _) dX3_isAgreement_8 rfl qX3_37 kX3_isHedge rfl rfl ⟨(Nat.le_of_ble_eq_true rfl), (Nat.le_of_ble_eq_true rfl)⟩ (Nat.le_of_ble_eq_true rfl) ⟨rfl, rfl⟩ ⟨(Nat.le_of_ble_eq_true rfl), (Nat.le_of_ble_eq_true rfl)⟩ (fun r9 w9 hp9 => ?_)
    obtain ⟨rfl, rfl⟩ := hp9
    refine Z_if_eq 14 35 dX3_isAgreement_11 rfl rfl (fun c11 => ?_) (fun c11 => ?_)
    · skip
      refine Z_iconst 36 (nI 0) dX3_isAgreement_35 rfl rfl ?_
      exact Z_zret dX3_isAgreement_36 rfl (by first | exact Or.inl rfl | exact Or.inr rfl | exact bI_01) (by first | exact ⟨bRf (fun q => bI_0 c4 q.1), rfl⟩ | exact ⟨bRf (fun q => bI_0 c11 q.2.1), rfl⟩ | exact ⟨bRf (fun q => q.2.2.1 c16), rfl⟩ | exact ⟨bRf (fun q => q.2.2.2.1 c22), rfl⟩ | exact ⟨bRf (fun q => q.2.2.2.2 c28), rfl⟩ | exact ⟨bRt (⟨bI_1 c4, bI_1 c11, c16, c22, c28⟩), rfl⟩)
    · skip
      refine Z_iload_n 15 0 dX3_isAgreement_14 rfl rfl ?_
      refine Z_iload_n 16 1 dX3_isAgreement_15 rfl rfl ?_
      refine Z_icmp_eq 19 35 dX3_isAgreement_16 rfl rfl (fun c16 => ?_) (fun c16 => ?_)
      · skip
        refine Z_iconst 36 (nI 0) dX3_isAgreement_35 rfl rfl ?_
        exact Z_zret dX3_isAgreement_36 rfl (by first | exact Or.inl rfl | exact Or.inr rfl | exact bI_01) (by first | exact ⟨bRf (fun q => bI_0 c4 q.1), rfl⟩ | exact ⟨bRf (fun q => bI_0 c11 q.2.1), rfl⟩ | exact ⟨bRf (fun q => q.2.2.1 c16), rfl⟩ | exact ⟨bRf (fun q => q.2.2.2.1 c22), rfl⟩ | exact ⟨bRf (fun q => q.2.2.2.2 c28), rfl⟩ | exact ⟨bRt (⟨bI_1 c4, bI_1 c11, c16, c22, c28⟩), rfl⟩)
      · skip
        refine Z_iload_n 20 2 dX3_isAgreement_19 rfl rfl ?_
        refine Z_bipush 22 (-30) dX3_isAgreement_20 rfl rfl ?_
        refine Z_icmp_lt 25 35 dX3_isAgreement_22 rfl rfl (fun c22 => ?_) (fun c22 => ?_)
        · skip
          refine Z_iconst 36 (nI 0) dX3_isAgreement_35 rfl rfl ?_
          exact Z_zret dX3_isAgreement_36 rfl (by first | exact Or.inl rfl | exact Or.inr rfl | exact bI_01) (by first | exact ⟨bRf (fun q => bI_0 c4 q.1), rfl⟩ | exact ⟨bRf (fun q => bI_0 c11 q.2.1), rfl⟩ | exact ⟨bRf (fun q => q.2.2.1 c16), rfl⟩ | exact ⟨bRf (fun q => q.2.2.2.1 c22), rfl⟩ | exact ⟨bRf (fun q => q.2.2.2.2 c28), rfl⟩ | exact ⟨bRt (⟨bI_1 c4, bI_1 c11, c16, c22, c28⟩), rfl⟩)
        · skip
          refine Z_iload_n 26 2 dX3_isAgreement_25 rfl rfl ?_
          refine Z_bipush 28 (nI 60) dX3_isAgreement_26 rfl rfl ?_
          refine Z_icmp_gt 31 35 dX3_isAgreement_28 rfl rfl (fun c28 => ?_) (fun c28 => ?_)
          · skip
            refine Z_iconst 36 (nI 0) dX3_isAgreement_35 rfl rfl ?_
            exact Z_zret dX3_isAgreement_36 rfl (by first | exact Or.inl rfl | exact Or.inr rfl | exact bI_01) (by first | exact ⟨bRf (fun q => bI_0 c4 q.1), rfl⟩ | exact ⟨bRf (fun q => bI_0 c11 q.2.1), rfl⟩ | exact ⟨bRf (fun q => q.2.2.1 c16), rfl⟩ | exact ⟨bRf (fun q => q.2.2.2.1 c22), rfl⟩ | exact ⟨bRf (fun q => q.2.2.2.2 c28), rfl⟩ | exact ⟨bRt (⟨bI_1 c4, bI_1 c11, c16, c22, c28⟩), rfl⟩)
          · skip
            refine Z_iconst 32 (nI 1) dX3_isAgreement_31 rfl rfl ?_
            refine Z_goto 36 dX3_isAgreement_32 rfl ?_
            exact Z_zret dX3_isAgreement_36 rfl (by first | exact Or.inl rfl | exact Or.inr rfl | exact bI_01) (by first | exact ⟨bRf (fun q => bI_0 c4 q.1), rfl⟩ | exact ⟨bRf (fun q => bI_0 c11 q.2.1), rfl⟩ | exact ⟨bRf (fun q => q.2.2.1 c16), rfl⟩ | exact ⟨bRf (fun q => q.2.2.2.1 c22), rfl⟩ | exact ⟨bRf (fun q => q.2.2.2.2 c28), rfl⟩ | exact ⟨bRt (⟨bI_1 c4, bI_1 c11, c16, c22, c28⟩), rfl⟩)

set_option maxRecDepth 100000 in
set_option maxHeartbeats 4000000 in
theorem zX3_isTreaty {G : zG} {l : Launch} {h : Nat → Nat} {m : zM} (n : Nat) (hk : m 1 8 = nI n) (x : Int32) : zMet G l yX3_isTreaty mX3_isTreaty [.ref (G.1 + 0), .int x] (zw h m) (fun r w => r = some (.int (bI (¬ x < 0 ∧ x < nI n))) ∧ w = zw h m) 0 0 := by
  refine zMet_of [(0, .ref (G.1 + 0)), (1, .int x)] (by decide +kernel) rfl (Or.inl rfl) (Nat.le_of_ble_eq_true rfl) rfl ?_
  refine Z_iload_n 1 1 dX3_isTreaty_0 rfl rfl ?_
  refine Z_if_lt 4 19 dX3_isTreaty_1 rfl rfl (fun c1 => ?_) (fun c1 => ?_)
  · skip
    refine Z_iconst 20 (nI 0) dX3_isTreaty_19 rfl rfl ?_
    exact Z_zret dX3_isTreaty_20 rfl (by first | exact Or.inl rfl | exact Or.inr rfl | exact bI_01) (by first | exact ⟨bRf (fun q => q.1 c1), rfl⟩ | exact ⟨bRf (fun q => absurd q.2 (Int32.not_lt.mpr c12)), rfl⟩ | exact ⟨bRt (⟨c1, Int32.not_le.mp c12⟩), rfl⟩)
  · skip
    refine Z_iload_n 5 1 dX3_isTreaty_4 rfl rfl ?_
    refine Z_aload_n 6 0 dX3_isTreaty_5 rfl rfl ?_
    refine Z_getR 9 dX3_isTreaty_6 rfl fX3_10 (Nat.le_of_ble_eq_true rfl) rfl rfl ?_
    refine Z_getI 12 dX3_isTreaty_9 rfl fX3_101 (Nat.le_of_ble_eq_true rfl) rfl rfl ?_
    refine Z_top (congrArg Value.int hk) ?_
    refine Z_icmp_ge 15 19 dX3_isTreaty_12 rfl rfl (fun c12 => ?_) (fun c12 => ?_)
    · skip
      refine Z_iconst 20 (nI 0) dX3_isTreaty_19 rfl rfl ?_
      exact Z_zret dX3_isTreaty_20 rfl (by first | exact Or.inl rfl | exact Or.inr rfl | exact bI_01) (by first | exact ⟨bRf (fun q => q.1 c1), rfl⟩ | exact ⟨bRf (fun q => absurd q.2 (Int32.not_lt.mpr c12)), rfl⟩ | exact ⟨bRt (⟨c1, Int32.not_le.mp c12⟩), rfl⟩)
    · skip
      refine Z_iconst 16 (nI 1) dX3_isTreaty_15 rfl rfl ?_
      refine Z_goto 20 dX3_isTreaty_16 rfl ?_
      exact Z_zret dX3_isTreaty_20 rfl (by first | exact Or.inl rfl | exact Or.inr rfl | exact bI_01) (by first | exact ⟨bRf (fun q => q.1 c1), rfl⟩ | exact ⟨bRf (fun q => absurd q.2 (Int32.not_lt.mpr c12)), rfl⟩ | exact ⟨bRt (⟨c1, Int32.not_le.mp c12⟩), rfl⟩)

set_option maxRecDepth 100000 in
set_option maxHeartbeats 4000000 in
theorem zX3_refuse {G : zG} {l : Launch} {h : Nat → Nat} {m : zM} (x : Int32) : zMet G l yX3_refuse mX3_refuse [.ref (G.1 + 0), .int x] (zw h m) (fun r w => r = some (.int x) ∧ w = zw h (up2 m 1 12 (m 1 12 + nI 1))) 0 0 := by
  refine zMet_of [(0, .ref (G.1 + 0)), (1, .int x)] (by decide +kernel) rfl (Or.inl rfl) (Nat.le_of_ble_eq_true rfl) rfl ?_
  refine Z_aload_n 1 0 dX3_refuse_0 rfl rfl ?_
  refine Z_getR 4 dX3_refuse_1 rfl fX3_10 (Nat.le_of_ble_eq_true rfl) rfl rfl ?_
  refine Z_dup 5 dX3_refuse_4 rfl rfl ?_
  refine Z_getI 8 dX3_refuse_5 rfl fX3_194 (Nat.le_of_ble_eq_true rfl) rfl rfl ?_
  refine Z_iconst 9 (nI 1) dX3_refuse_8 rfl rfl ?_
  refine Z_iadd 10 dX3_refuse_9 rfl ?_
  refine Z_putI 13 .int dX3_refuse_10 rfl fX3_194 ft_1_12 (Nat.le_of_ble_eq_true rfl) rfl rfl rfl rfl ?_
  refine Z_iload_n 14 1 dX3_refuse_13 rfl rfl ?_
  exact Z_iret dX3_refuse_14 rfl ⟨rfl, rfl⟩

def esg (n : Nat) (f o d : Int32) : Int32 := if agr f o d then (if nI n < nI 14 then nI 0 else -3) else -1
theorem esg_1 {n : Nat} {f o d : Int32} (h : ¬ agr f o d) : esg n f o d = -1 := if_neg h
theorem esg_3 {n : Nat} {f o d : Int32} (h : agr f o d) (h2 : ¬ nI n < nI 14) : esg n f o d = -3 := by
  unfold esg
  rw [if_pos h, if_neg h2]
theorem esg_0 {n : Nat} {f o d : Int32} (h : agr f o d) (h2 : nI n < nI 14) : esg n f o d = nI 0 := by
  unfold esg
  rw [if_pos h, if_pos h2]
set_option maxRecDepth 100000 in
set_option maxHeartbeats 4000000 in
theorem zX3_errorOfSigning {G : zG} {l : Launch} {h : Nat → Nat} {m : zM} (n : Nat) (hk : m 1 8 = nI n) (f o d : Int32) : zMet G l yX3_errorOfSigning mX3_errorOfSigning [.ref (G.1 + 0), .int f, .int o, .int d] (zw h m) (fun r w => r = some (.int (esg n f o d)) ∧ w = zw h m) 0 0 := by
  refine zMet_of [(0, .ref (G.1 + 0)), (1, .int f), (2, .int o), (3, .int d)] (by decide +kernel) rfl (Or.inl rfl) (Nat.le_of_ble_eq_true rfl) rfl ?_
  refine Z_iload_n 1 1 dX3_errorOfSigning_0 rfl rfl ?_
  refine Z_iload_n 2 2 dX3_errorOfSigning_1 rfl rfl ?_
  refine Z_iload_n 3 3 dX3_errorOfSigning_2 rfl rfl ?_
  refine Z_callS 6 [_, _, _] (zX3_isAgreement _ _ _) dX3_errorOfSigning_3 rfl qX3_174 kX3_isAgreement rfl rfl ⟨(Nat.le_of_ble_eq_true rfl), (Nat.le_of_ble_eq_true rfl)⟩ (Nat.le_of_ble_eq_true rfl) ⟨rfl, rfl⟩ ⟨(Nat.le_of_ble_eq_true rfl), (Nat.le_of_ble_eq_true rfl)⟩ (fun r9 w9 hp9 => ?_)
  obtain ⟨rfl, rfl⟩ := hp9
  refine Z_if_ne 9 11 dX3_errorOfSigning_6 rfl rfl (fun c6 => ?_) (fun c6 => ?_)
  · skip
    refine Z_aload_n 12 0 dX3_errorOfSigning_11 rfl rfl ?_
    refine Z_getR 15 dX3_errorOfSigning_12 rfl fX3_10 (Nat.le_of_ble_eq_true rfl) rfl rfl ?_
    refine Z_getI 18 dX3_errorOfSigning_15 rfl fX3_101 (Nat.le_of_ble_eq_true rfl) rfl rfl ?_
    refine Z_top (congrArg Value.int hk) ?_
    refine Z_bipush 20 (nI 14) dX3_errorOfSigning_18 rfl rfl ?_
    refine Z_icmp_lt 23 28 dX3_errorOfSigning_20 rfl rfl (fun c20 => ?_) (fun c20 => ?_)
    · skip
      refine Z_iconst 29 (nI 0) dX3_errorOfSigning_28 rfl rfl ?_
      exact Z_iret dX3_errorOfSigning_29 rfl (by first | exact ⟨congrArg (fun v => some (Value.int v)) (esg_0 (bI_1 c6) c20).symm, rfl⟩ | exact ⟨congrArg (fun v => some (Value.int v)) (esg_3 (bI_1 c6) c20).symm, rfl⟩ | exact ⟨congrArg (fun v => some (Value.int v)) (esg_1 (bI_0 (by simpa using c6))).symm, rfl⟩)
    · skip
      refine Z_bipush 25 (-3) dX3_errorOfSigning_23 rfl rfl ?_
      refine Z_goto 29 dX3_errorOfSigning_25 rfl ?_
      exact Z_iret dX3_errorOfSigning_29 rfl (by first | exact ⟨congrArg (fun v => some (Value.int v)) (esg_0 (bI_1 c6) c20).symm, rfl⟩ | exact ⟨congrArg (fun v => some (Value.int v)) (esg_3 (bI_1 c6) c20).symm, rfl⟩ | exact ⟨congrArg (fun v => some (Value.int v)) (esg_1 (bI_0 (by simpa using c6))).symm, rfl⟩)
  · skip
    refine Z_iconst 10 (-1) dX3_errorOfSigning_9 rfl rfl ?_
    exact Z_iret dX3_errorOfSigning_10 rfl (by first | exact ⟨congrArg (fun v => some (Value.int v)) (esg_0 (bI_1 c6) c20).symm, rfl⟩ | exact ⟨congrArg (fun v => some (Value.int v)) (esg_3 (bI_1 c6) c20).symm, rfl⟩ | exact ⟨congrArg (fun v => some (Value.int v)) (esg_1 (bI_0 (by simpa using c6))).symm, rfl⟩)

set_option maxRecDepth 100000 in
set_option maxHeartbeats 4000000 in
theorem lX3_sum {G : zG} {l : Launch} {h : Nat → Nat} {m : zM} (q9 : Nat) (hq : q9 < 83) (hs9 : SH h q9 = .inl 8) : ∀ (t i : Nat), i + t = 8 → Z G mX3_sum (fun _ => True) (zN G (fun r w => r = some (.int (sumI (m q9) 8)) ∧ w = zw h m) 0 0) l 0 0 (zw h m) 10 [(4, .int (nI i)), (1, .int (sumI (m q9) i)), (3, .int (nI 8)), (2, .ref (G.1 + q9))] [] := by
  intro t
  induction t with
  | zero =>
    intro i hi
    have e9 : i = 8 := by omega
    subst e9
    refine Z_iload 12 0 dX3_sum_10 rfl rfl ?_
    refine Z_iload_n 13 2 dX3_sum_12 rfl rfl ?_
    refine Z_icmp_ge 16 33 dX3_sum_13 rfl rfl (fun c13 => ?_) (fun c13 => absurd (nI_le (Nat.le_refl _) (by omega)) c13)
    refine Z_iload_n 34 1 dX3_sum_33 rfl rfl ?_
    exact Z_iret dX3_sum_34 rfl ⟨rfl, rfl⟩
  | succ t ih =>
    intro i hi
    have hlt : i < 8 := by omega
    refine Z_iload 12 0 dX3_sum_10 rfl rfl ?_
    refine Z_iload_n 13 2 dX3_sum_12 rfl rfl ?_
    refine Z_icmp_ge 16 33 dX3_sum_13 rfl rfl (fun c13 => absurd c13 (nI_ge hlt (by omega))) (fun c13 => ?_)
    refine Z_aload_n 17 3 dX3_sum_16 rfl rfl ?_
    refine Z_iload 19 0 dX3_sum_17 rfl rfl ?_
    refine Z_ialn 20 dX3_sum_19 rfl hq hs9 (by first | assumption | omega) (by decide) ?_
    refine Z_istore 22 [(5, _), (4, _), (1, _), (3, _), (2, _)] dX3_sum_20 rfl (Nat.le_of_ble_eq_true rfl) rfl ?_
    refine Z_iload_n 23 2 dX3_sum_22 rfl rfl ?_
    refine Z_iload 25 0 dX3_sum_23 rfl rfl ?_
    refine Z_iadd 26 dX3_sum_25 rfl ?_
    refine Z_istore_n 27 [(1, _), (5, _), (4, _), (3, _), (2, _)] dX3_sum_26 rfl (Nat.le_of_ble_eq_true rfl) rfl ?_
    refine Z_iinc 30 [(4, _), (1, _), (5, _), (3, _), (2, _)] 2 _ dX3_sum_27 rfl (Nat.le_of_ble_eq_true rfl) rfl (nI_1 _) rfl ?_
    refine Z_goto 10 dX3_sum_30 rfl ?_
    refine Z_lv [0, 1, 3, 4] rfl ?_
    exact ih (i + 1) (by omega)

set_option maxRecDepth 100000 in
set_option maxHeartbeats 4000000 in
theorem zX3_sum {G : zG} {l : Launch} {h : Nat → Nat} {m : zM} (q9 : Nat) (hq : q9 < 83) (hs9 : SH h q9 = .inl 8) : zMet G l yX3_sum mX3_sum [.ref (G.1 + q9)] (zw h m) (fun r w => r = some (.int (sumI (m q9) 8)) ∧ w = zw h m) 0 0 := by
  refine zMet_of [(0, .ref (G.1 + q9))] (by decide +kernel) rfl (Or.inl rfl) (Nat.le_of_ble_eq_true rfl) rfl ?_
  refine Z_iconst 1 (nI 0) dX3_sum_0 rfl rfl ?_
  refine Z_istore_n 2 [(1, _), (0, _)] dX3_sum_1 rfl (Nat.le_of_ble_eq_true rfl) rfl ?_
  refine Z_aload_n 3 1 dX3_sum_2 rfl rfl ?_
  refine Z_astore_n 4 [(2, _), (1, _), (0, _)] dX3_sum_3 rfl (Nat.le_of_ble_eq_true rfl) rfl ?_
  refine Z_aload_n 5 0 dX3_sum_4 rfl rfl ?_
  refine Z_alen 6 dX3_sum_5 rfl hq hs9 ?_
  refine Z_istore_n 7 [(3, _), (2, _), (1, _), (0, _)] dX3_sum_6 rfl (Nat.le_of_ble_eq_true rfl) rfl ?_
  refine Z_iconst 8 (nI 0) dX3_sum_7 rfl rfl ?_
  refine Z_istore 10 [(4, _), (3, _), (2, _), (1, _), (0, _)] dX3_sum_8 rfl (Nat.le_of_ble_eq_true rfl) rfl ?_
  refine Z_lv [0, 3, 1, 2] rfl ?_
  exact lX3_sum q9 hq hs9 8 0 (by omega)

/-- the history's order: four streets, each once -/
def IsH (a : Nat) : Prop := a = 20 ∨ a = 29 ∨ a = 38 ∨ a = 47
theorem IsH.st {a : Nat} (h : IsH a) : IsSt a := by unfold IsH at h; unfold IsSt; omega
theorem IsH.ne1 {a : Nat} (h : IsH a) : a + 9 ≤ 1 ∨ 1 + 9 ≤ a := by unfold IsH at h; omega
def hOk (h : Nat → Nat) : Prop := (∀ k, k < 4 → IsH (h k)) ∧ ∀ i j, i < 4 → j < 4 → h i = h j → i = j
def rotH (h : Nat → Nat) : Nat → Nat := fun j => if j = 3 then h 0 else if j = 2 then h 3 else if j = 1 then h 2 else if j = 0 then h 1 else h j
theorem rotH_ok {h : Nat → Nat} (hh : hOk h) : hOk (rotH h) := by
  refine ⟨fun k hk => ?_, fun i j hi hj e => ?_⟩
  · have h4 : k = 0 ∨ k = 1 ∨ k = 2 ∨ k = 3 := by omega
    rcases h4 with rfl | rfl | rfl | rfl
    · exact hh.1 1 (by decide)
    · exact hh.1 2 (by decide)
    · exact hh.1 3 (by decide)
    · exact hh.1 0 (by decide)
  · have key : ∀ i, i < 4 → ∃ q, q < 4 ∧ rotH h i = h q ∧ (i = 3 ∧ q = 0 ∨ i < 3 ∧ q = i + 1) := by
      intro i hi
      have h4 : i = 0 ∨ i = 1 ∨ i = 2 ∨ i = 3 := by omega
      rcases h4 with rfl | rfl | rfl | rfl
      · exact ⟨1, by decide, rfl, by omega⟩
      · exact ⟨2, by decide, rfl, by omega⟩
      · exact ⟨3, by decide, rfl, by omega⟩
      · exact ⟨0, by decide, rfl, by omega⟩
    obtain ⟨q1, g1, g2, g3⟩ := key i hi
    obtain ⟨q2, f1, f2, f3⟩ := key j hj
    rw [g2, f2] at e
    have := hh.2 q1 q2 g1 f1 e
    omega
set_option maxRecDepth 100000 in
set_option maxHeartbeats 4000000 in
theorem zX3_dropOldestState {G : zG} {l : Launch} {h : Nat → Nat} {m : zM} (hh : hOk h) : zMet G l yX3_dropOldestState mX3_dropOldestState [.ref (G.1 + 0)] (zw h m) (fun r w => r = none ∧ w = zw (rotH h) (up2 m 0 5 (nI 3))) 0 0 := by
  refine zMet_of [(0, .ref (G.1 + 0))] (by decide +kernel) rfl (Or.inl rfl) (Nat.le_of_ble_eq_true rfl) rfl ?_
  refine Z_aload_n 1 0 dX3_dropOldestState_0 rfl rfl ?_
  refine Z_getR 4 dX3_dropOldestState_1 rfl fX3_19 (Nat.le_of_ble_eq_true rfl) rfl rfl ?_
  refine Z_iconst 5 (nI 0) dX3_dropOldestState_4 rfl rfl ?_
  refine Z_aaln (r := h 0) 6 dX3_dropOldestState_5 rfl (Nat.le_of_ble_eq_true rfl) rfl (show 0 < 4 by decide) (by decide) rfl ?_
  refine Z_astore_n 7 [(1, _), (0, _)] dX3_dropOldestState_6 rfl (Nat.le_of_ble_eq_true rfl) rfl ?_
  refine Z_iconst 8 (nI 1) dX3_dropOldestState_7 rfl rfl ?_
  refine Z_istore_n 9 [(2, _), (1, _), (0, _)] dX3_dropOldestState_8 rfl (Nat.le_of_ble_eq_true rfl) rfl ?_
  refine Z_iload_n 10 0 dX3_dropOldestState_9 rfl rfl ?_
  refine Z_iconst 11 (nI 4) dX3_dropOldestState_10 rfl rfl ?_
  refine Z_icmp_ge 14 34 dX3_dropOldestState_11 rfl rfl (fun c => absurd c (by decide)) (fun _ => ?_)
  refine Z_aload_n 15 2 dX3_dropOldestState_14 rfl rfl ?_
  refine Z_getR 18 dX3_dropOldestState_15 rfl fX3_19 (Nat.le_of_ble_eq_true rfl) rfl rfl ?_
  refine Z_iload_n 19 0 dX3_dropOldestState_18 rfl rfl ?_
  refine Z_iconst 20 (nI 1) dX3_dropOldestState_19 rfl rfl ?_
  refine Z_isub 21 dX3_dropOldestState_20 rfl ?_
  refine Z_top (v' := .int (nI 0)) rfl ?_
  refine Z_aload_n 22 2 dX3_dropOldestState_21 rfl rfl ?_
  refine Z_getR 25 dX3_dropOldestState_22 rfl fX3_19 (Nat.le_of_ble_eq_true rfl) rfl rfl ?_
  refine Z_iload_n 26 0 dX3_dropOldestState_25 rfl rfl ?_
  refine Z_aaln (r := h 1) 27 dX3_dropOldestState_26 rfl (Nat.le_of_ble_eq_true rfl) rfl (show 1 < 4 by decide) (by decide) rfl ?_
  refine Z_aasn 28 dX3_dropOldestState_27 rfl (Nat.le_of_ble_eq_true rfl) rfl (show 0 < 4 by decide) (by decide) (Nat.lt_of_le_of_lt (hh.1 1 (by decide)).st.lt (Nat.le_of_ble_eq_true rfl)) (shS (hh.1 1 (by decide)).st) ?_
  refine Z_w (w' := zw (fun j => if j = 0 then h 1 else h j) m) (congrArg (fun z => ((83, z, m) : zW)) (SH_set h 0 (h 1))) ?_
  refine Z_iinc 31 [(2, _), (1, _), (0, _)] 0 (nI 2) dX3_dropOldestState_28 rfl (Nat.le_of_ble_eq_true rfl) rfl rfl rfl ?_
  refine Z_goto 9 dX3_dropOldestState_31 rfl ?_
  refine Z_iload_n 10 0 dX3_dropOldestState_9 rfl rfl ?_
  refine Z_iconst 11 (nI 4) dX3_dropOldestState_10 rfl rfl ?_
  refine Z_icmp_ge 14 34 dX3_dropOldestState_11 rfl rfl (fun c => absurd c (by decide)) (fun _ => ?_)
  refine Z_aload_n 15 2 dX3_dropOldestState_14 rfl rfl ?_
  refine Z_getR 18 dX3_dropOldestState_15 rfl fX3_19 (Nat.le_of_ble_eq_true rfl) rfl rfl ?_
  refine Z_iload_n 19 0 dX3_dropOldestState_18 rfl rfl ?_
  refine Z_iconst 20 (nI 1) dX3_dropOldestState_19 rfl rfl ?_
  refine Z_isub 21 dX3_dropOldestState_20 rfl ?_
  refine Z_top (v' := .int (nI 1)) rfl ?_
  refine Z_aload_n 22 2 dX3_dropOldestState_21 rfl rfl ?_
  refine Z_getR 25 dX3_dropOldestState_22 rfl fX3_19 (Nat.le_of_ble_eq_true rfl) rfl rfl ?_
  refine Z_iload_n 26 0 dX3_dropOldestState_25 rfl rfl ?_
  refine Z_aaln (r := h 2) 27 dX3_dropOldestState_26 rfl (Nat.le_of_ble_eq_true rfl) rfl (show 2 < 4 by decide) (by decide) rfl ?_
  refine Z_aasn 28 dX3_dropOldestState_27 rfl (Nat.le_of_ble_eq_true rfl) rfl (show 1 < 4 by decide) (by decide) (Nat.lt_of_le_of_lt (hh.1 2 (by decide)).st.lt (Nat.le_of_ble_eq_true rfl)) (shS (hh.1 2 (by decide)).st) ?_
  refine Z_w (w' := zw (fun j => if j = 1 then h 2 else (fun j => if j = 0 then h 1 else h j) j) m) (congrArg (fun z => ((83, z, m) : zW)) (SH_set (fun j => if j = 0 then h 1 else h j) 1 (h 2))) ?_
  refine Z_iinc 31 [(2, _), (1, _), (0, _)] 0 (nI 3) dX3_dropOldestState_28 rfl (Nat.le_of_ble_eq_true rfl) rfl rfl rfl ?_
  refine Z_goto 9 dX3_dropOldestState_31 rfl ?_
  refine Z_iload_n 10 0 dX3_dropOldestState_9 rfl rfl ?_
  refine Z_iconst 11 (nI 4) dX3_dropOldestState_10 rfl rfl ?_
  refine Z_icmp_ge 14 34 dX3_dropOldestState_11 rfl rfl (fun c => absurd c (by decide)) (fun _ => ?_)
  refine Z_aload_n 15 2 dX3_dropOldestState_14 rfl rfl ?_
  refine Z_getR 18 dX3_dropOldestState_15 rfl fX3_19 (Nat.le_of_ble_eq_true rfl) rfl rfl ?_
  refine Z_iload_n 19 0 dX3_dropOldestState_18 rfl rfl ?_
  refine Z_iconst 20 (nI 1) dX3_dropOldestState_19 rfl rfl ?_
  refine Z_isub 21 dX3_dropOldestState_20 rfl ?_
  refine Z_top (v' := .int (nI 2)) rfl ?_
  refine Z_aload_n 22 2 dX3_dropOldestState_21 rfl rfl ?_
  refine Z_getR 25 dX3_dropOldestState_22 rfl fX3_19 (Nat.le_of_ble_eq_true rfl) rfl rfl ?_
  refine Z_iload_n 26 0 dX3_dropOldestState_25 rfl rfl ?_
  refine Z_aaln (r := h 3) 27 dX3_dropOldestState_26 rfl (Nat.le_of_ble_eq_true rfl) rfl (show 3 < 4 by decide) (by decide) rfl ?_
  refine Z_aasn 28 dX3_dropOldestState_27 rfl (Nat.le_of_ble_eq_true rfl) rfl (show 2 < 4 by decide) (by decide) (Nat.lt_of_le_of_lt (hh.1 3 (by decide)).st.lt (Nat.le_of_ble_eq_true rfl)) (shS (hh.1 3 (by decide)).st) ?_
  refine Z_w (w' := zw (fun j => if j = 2 then h 3 else (fun j => if j = 1 then h 2 else (fun j => if j = 0 then h 1 else h j) j) j) m) (congrArg (fun z => ((83, z, m) : zW)) (SH_set (fun j => if j = 1 then h 2 else (fun j => if j = 0 then h 1 else h j) j) 2 (h 3))) ?_
  refine Z_iinc 31 [(2, _), (1, _), (0, _)] 0 (nI 4) dX3_dropOldestState_28 rfl (Nat.le_of_ble_eq_true rfl) rfl rfl rfl ?_
  refine Z_goto 9 dX3_dropOldestState_31 rfl ?_
  refine Z_iload_n 10 0 dX3_dropOldestState_9 rfl rfl ?_
  refine Z_iconst 11 (nI 4) dX3_dropOldestState_10 rfl rfl ?_
  refine Z_icmp_ge 14 34 dX3_dropOldestState_11 rfl rfl (fun _ => ?_) (fun c => absurd (by decide) c)
  refine Z_aload_n 35 2 dX3_dropOldestState_34 rfl rfl ?_
  refine Z_getR 38 dX3_dropOldestState_35 rfl fX3_19 (Nat.le_of_ble_eq_true rfl) rfl rfl ?_
  refine Z_iconst 39 (nI 3) dX3_dropOldestState_38 rfl rfl ?_
  refine Z_aload_n 40 1 dX3_dropOldestState_39 rfl rfl ?_
  refine Z_aasn 41 dX3_dropOldestState_40 rfl (Nat.le_of_ble_eq_true rfl) rfl (show 3 < 4 by decide) (by decide) (Nat.lt_of_le_of_lt (hh.1 0 (by decide)).st.lt (Nat.le_of_ble_eq_true rfl)) (shS (hh.1 0 (by decide)).st) ?_
  refine Z_w (w' := zw (rotH h) m) (congrArg (fun z => ((83, z, m) : zW)) (SH_set (fun j => if j = 2 then h 3 else (fun j => if j = 1 then h 2 else (fun j => if j = 0 then h 1 else h j) j) j) 3 (h 0))) ?_
  refine Z_aload_n 42 2 dX3_dropOldestState_41 rfl rfl ?_
  refine Z_iconst 43 (nI 3) dX3_dropOldestState_42 rfl rfl ?_
  refine Z_putI 46 .int dX3_dropOldestState_43 rfl fX3_200 ft_3_5 (Nat.le_of_ble_eq_true rfl) rfl rfl rfl rfl ?_
  exact Z_vret dX3_dropOldestState_46 rfl ⟨rfl, rfl⟩

def hRem (h : Nat → Nat) (s : Nat) : Nat → Nat := if s < 4 then h else rotH h
def mRem (h : Nat → Nat) (m : zM) (s : Nat) : zM := if s < 4 then up2 (cpM m (h s) 1) 0 5 (nI (s + 1)) else up2 (cpM (up2 m 0 5 (nI 3)) (h 0) 1) 0 5 (nI 4)
theorem cpM_0 {m : zM} {a k : Nat} (ha : IsH a) : cpM m a 1 0 k = m 0 k := by
  unfold IsH at ha
  unfold cpM
  rw [if_neg (by omega)]
set_option maxRecDepth 100000 in
set_option maxHeartbeats 4000000 in
theorem zX3_remember {G : zG} {l : Launch} {h : Nat → Nat} {m : zM} (s : Nat) (hs : s ≤ 4) (hst : m 0 5 = nI s) (hh : hOk h) : zMet G l yX3_remember mX3_remember [.ref (G.1 + 0)] (zw h m) (fun r w => r = none ∧ w = zw (hRem h s) (mRem h m s)) 0 0 := by
  refine zMet_of [(0, .ref (G.1 + 0))] (by decide +kernel) rfl (Or.inl rfl) (Nat.le_of_ble_eq_true rfl) rfl ?_
  refine Z_aload_n 1 0 dX3_remember_0 rfl rfl ?_
  refine Z_getI 4 dX3_remember_1 rfl fX3_200 (Nat.le_of_ble_eq_true rfl) rfl rfl ?_
  refine Z_top (congrArg Value.int hst) ?_
  refine Z_iconst 5 (nI 4) dX3_remember_4 rfl rfl ?_
  refine Z_icmp_lt 8 12 dX3_remember_5 rfl rfl (fun c => ?_) (fun c => ?_)
  · have hs4 : s < 4 := (nI_ltI (by omega) (by decide)).mp c
    refine Z_aload_n 13 0 dX3_remember_12 rfl rfl ?_
    refine Z_getR 16 dX3_remember_13 rfl fX3_19 (Nat.le_of_ble_eq_true rfl) rfl rfl ?_
    refine Z_aload_n 17 0 dX3_remember_16 rfl rfl ?_
    refine Z_getI 20 dX3_remember_17 rfl fX3_200 (Nat.le_of_ble_eq_true rfl) rfl rfl ?_
    refine Z_top (v' := .int (nI s)) (congrArg Value.int hst) ?_
    refine Z_aaln (r := h s) 21 dX3_remember_20 rfl (Nat.le_of_ble_eq_true rfl) rfl (by omega) (by decide) rfl ?_
    refine Z_aload_n 22 0 dX3_remember_21 rfl rfl ?_
    refine Z_getR 25 dX3_remember_22 rfl fX3_10 (Nat.le_of_ble_eq_true rfl) rfl rfl ?_
    refine Z_callV 28 [_] 1 (zX1_copyFrom (h s) 1 (hh.1 s (by omega)).st (Or.inl rfl) (hh.1 s (by omega)).ne1) dX3_remember_25 rfl qX3_210 kX1_copyFrom rfl rfl (Nat.lt_of_le_of_lt (hh.1 s (by omega)).st.lt (Nat.le_of_ble_eq_true rfl)) (shS (hh.1 s (by omega)).st) rfl ⟨(Nat.le_of_ble_eq_true rfl), (Nat.le_of_ble_eq_true rfl)⟩ (Nat.le_of_ble_eq_true rfl) ⟨rfl, rfl⟩ ⟨(Nat.le_of_ble_eq_true rfl), (Nat.le_of_ble_eq_true rfl)⟩ (fun r9 w9 hp9 => ?_)
    obtain ⟨rfl, rfl⟩ := hp9
    refine Z_aload_n 29 0 dX3_remember_28 rfl rfl ?_
    refine Z_dup 30 dX3_remember_29 rfl rfl ?_
    refine Z_getI 33 dX3_remember_30 rfl fX3_200 (Nat.le_of_ble_eq_true rfl) rfl rfl ?_
    refine Z_iconst 34 (nI 1) dX3_remember_33 rfl rfl ?_
    refine Z_iadd 35 dX3_remember_34 rfl ?_
    refine Z_top (v' := .int (nI (s + 1))) (congrArg Value.int (by rw [show cpM m (h s) 1 0 5 = nI s from (cpM_0 (hh.1 s (by omega))).trans hst]; exact nI_1 _)) ?_
    refine Z_putI 38 .int dX3_remember_35 rfl fX3_200 ft_3_5 (Nat.le_of_ble_eq_true rfl) rfl rfl rfl rfl ?_
    exact Z_vret dX3_remember_38 rfl ⟨rfl, by unfold hRem mRem; rw [if_pos hs4, if_pos hs4]⟩
  · have hs4 : ¬ s < 4 := fun q => c ((nI_ltI (by omega) (by decide)).mpr q)
    refine Z_aload_n 9 0 dX3_remember_8 rfl rfl ?_
    refine Z_callV 12 [] 3 (zX3_dropOldestState hh) dX3_remember_9 rfl qX3_218 kX3_dropOldestState rfl rfl (Nat.le_of_ble_eq_true rfl) rfl rfl ⟨(Nat.le_of_ble_eq_true rfl), (Nat.le_of_ble_eq_true rfl)⟩ (Nat.le_of_ble_eq_true rfl) ⟨rfl, rfl⟩ ⟨(Nat.le_of_ble_eq_true rfl), (Nat.le_of_ble_eq_true rfl)⟩ (fun r9 w9 hp9 => ?_)
    obtain ⟨rfl, rfl⟩ := hp9
    refine Z_aload_n 13 0 dX3_remember_12 rfl rfl ?_
    refine Z_getR 16 dX3_remember_13 rfl fX3_19 (Nat.le_of_ble_eq_true rfl) rfl rfl ?_
    refine Z_aload_n 17 0 dX3_remember_16 rfl rfl ?_
    refine Z_getI 20 dX3_remember_17 rfl fX3_200 (Nat.le_of_ble_eq_true rfl) rfl rfl ?_
    refine Z_top (v' := .int (nI 3)) (congrArg Value.int (up2_eq _ _ _ _)) ?_
    refine Z_aaln (r := h 0) 21 dX3_remember_20 rfl (Nat.le_of_ble_eq_true rfl) rfl (by decide) (by decide) rfl ?_
    refine Z_aload_n 22 0 dX3_remember_21 rfl rfl ?_
    refine Z_getR 25 dX3_remember_22 rfl fX3_10 (Nat.le_of_ble_eq_true rfl) rfl rfl ?_
    refine Z_callV 28 [_] 1 (zX1_copyFrom (h 0) 1 (hh.1 0 (by omega)).st (Or.inl rfl) (hh.1 0 (by omega)).ne1) dX3_remember_25 rfl qX3_210 kX1_copyFrom rfl rfl (Nat.lt_of_le_of_lt (hh.1 0 (by omega)).st.lt (Nat.le_of_ble_eq_true rfl)) (shS (hh.1 0 (by omega)).st) rfl ⟨(Nat.le_of_ble_eq_true rfl), (Nat.le_of_ble_eq_true rfl)⟩ (Nat.le_of_ble_eq_true rfl) ⟨rfl, rfl⟩ ⟨(Nat.le_of_ble_eq_true rfl), (Nat.le_of_ble_eq_true rfl)⟩ (fun r9 w9 hp9 => ?_)
    obtain ⟨rfl, rfl⟩ := hp9
    refine Z_aload_n 29 0 dX3_remember_28 rfl rfl ?_
    refine Z_dup 30 dX3_remember_29 rfl rfl ?_
    refine Z_getI 33 dX3_remember_30 rfl fX3_200 (Nat.le_of_ble_eq_true rfl) rfl rfl ?_
    refine Z_iconst 34 (nI 1) dX3_remember_33 rfl rfl ?_
    refine Z_iadd 35 dX3_remember_34 rfl ?_
    refine Z_top (v' := .int (nI (3 + 1))) (congrArg Value.int (by rw [show cpM (up2 m 0 5 (nI 3)) (h 0) 1 0 5 = nI 3 from (cpM_0 (hh.1 0 (by omega))).trans (up2_eq _ _ _ _)]; exact nI_1 _)) ?_
    refine Z_putI 38 .int dX3_remember_35 rfl fX3_200 ft_3_5 (Nat.le_of_ble_eq_true rfl) rfl rfl rfl rfl ?_
    exact Z_vret dX3_remember_38 rfl ⟨rfl, by unfold hRem mRem; rw [if_neg hs4, if_neg hs4]⟩
end
section
/-! HedgeTreaties: the changes, and looks without bounds -/
theorem bI_ne {p : Prop} [Decidable p] (hp : p) : ¬ bI p = 0 := fun h => bI_0 h hp
theorem bI_z {p : Prop} [Decidable p] (hp : ¬ p) : bI p = 0 := by rw [bI_f hp]; rfl
theorem hdgN {i : Nat} (hi : i < 8) : hdg (nI i) := ⟨nI_pos (by omega), nI_lt hi (by decide)⟩
theorem rngN {i n : Nat} (hi : i < n) (hn : n < 2 ^ 31) : ¬ nI i < 0 ∧ nI i < nI n := ⟨nI_pos (by omega), nI_lt hi hn⟩
abbrev refM (m : zM) : zM := up2 m 1 12 (m 1 12 + nI 1)
theorem mRem_o {h : Nat → Nat} {m : zM} {s : Nat} (hh : hOk h) {q : Nat} (h0 : q ≠ 0) (hq : q < 20 ∨ 56 ≤ q) : mRem h m s q = m q := by
  funext k
  unfold mRem
  have key : ∀ (m : zM) (i : Nat), i < 4 → cpM m (h i) 1 q k = m q k := by
    intro m i hi
    have := hh.1 i hi
    unfold IsH at this
    unfold cpM
    rw [if_neg (by omega)]
  split
  · rw [up2_ne _ _ (fun z => h0 z.1)]
    exact key m s (by omega)
  · rw [up2_ne _ _ (fun z => h0 z.1), key _ 0 (by decide), up2_ne _ _ (fun z => h0 z.1)]
theorem mRem_0 {h : Nat → Nat} {m : zM} {s : Nat} (hh : hOk h) {k : Nat} (h0 : k ≠ 5) : mRem h m s 0 k = m 0 k := by
  unfold mRem
  have key : ∀ (m : zM) (i : Nat), i < 4 → cpM m (h i) 1 0 k = m 0 k := fun m i hi => cpM_0 (hh.1 i hi)
  split
  · rw [up2_ne _ _ (fun z => h0 z.2)]
    exact key m s (by omega)
  · rw [up2_ne _ _ (fun z => h0 z.2), key _ 0 (by decide), up2_ne _ _ (fun z => h0 z.2)]
theorem sOk_congr {m m' : zM} {a n : Nat} (h8 : m' a 8 = m a 8) (h5 : ∀ k, k < n → m' (a + 5) k = m (a + 5) k) (h6 : ∀ k, k < n → m' (a + 6) k = m (a + 6) k) (hk : sOk m a n) : sOk m' a n := by
  obtain ⟨e1, e2, e3⟩ := hk
  refine ⟨h8.trans e1, e2, fun t ht => ?_⟩
  have := e3 t ht
  unfold sF sO at this ⊢
  rw [h5 t ht, h6 t ht]
  exact this
theorem mRem_sOk {h : Nat → Nat} {m : zM} {s n : Nat} (hh : hOk h) (hk : sOk m 1 n) : sOk (mRem h m s) 1 n :=
  sOk_congr (by rw [mRem_o hh (by decide) (by decide)]) (fun k _ => by rw [mRem_o hh (by decide) (by decide)]) (fun k _ => by rw [mRem_o hh (by decide) (by decide)]) hk
theorem dayM_o {m : zM} {a q : Nat} (h1 : q ≠ a) (h2 : q ≠ a + 1) : dayM m a q = m q := by
  funext k
  simp [dayM, up2, pdM, h1, h2]
theorem dayM_a {m : zM} {a k : Nat} (h : k ≠ 9) : dayM m a a k = m a k := by simp [dayM, up2, pdM, h]
theorem dayM_sOk {m : zM} {n : Nat} (hk : sOk m 1 n) : sOk (dayM m 1) 1 n :=
  sOk_congr (dayM_a (by decide)) (fun k _ => by rw [dayM_o (by decide) (by decide)]) (fun k _ => by rw [dayM_o (by decide) (by decide)]) hk
theorem brk_0 {m : zM} {a n : Nat} {P : Nat → Prop} [DecidablePred P] : cnt (fun j => decide ((sAbout m a j (-1)) ∧ P j)) n = cnt (fun j => decide (P j)) n :=
  cnt_congr n (fun j _ => by
    by_cases h : P j
    · simp [h]
    · simp [h])
set_option maxRecDepth 100000 in
set_option maxHeartbeats 4000000 in
theorem eX3_height {G : zG} {l : Launch} {h : Nat → Nat} {m : zM} (x y : Int32) (hne : ¬ (hdg x ∧ ¬ y < 0 ∧ ¬ nI 99 < y)) : zMet G l yX3_height mX3_height [.ref (G.1 + 0), .int x, .int y] (zw h m) (fun r w => r = some (.int (-1)) ∧ w = zw h m) 0 0 := by
  refine zMet_of [(0, .ref (G.1 + 0)), (1, .int x), (2, .int y)] (by decide +kernel) rfl (Or.inl rfl) (Nat.le_of_ble_eq_true rfl) rfl ?_
  refine Z_iload_n 1 1 dX3_height_0 rfl rfl ?_
  refine Z_callS 4 [_] (zX3_isHedge _) dX3_height_1 rfl qX3_37 kX3_isHedge rfl rfl ⟨(Nat.le_of_ble_eq_true rfl), (Nat.le_of_ble_eq_true rfl)⟩ (Nat.le_of_ble_eq_true rfl) ⟨rfl, rfl⟩ ⟨(Nat.le_of_ble_eq_true rfl), (Nat.le_of_ble_eq_true rfl)⟩ (fun r9 w9 hp9 => ?_)
  obtain ⟨rfl, rfl⟩ := hp9
  refine Z_if_eq 7 17 dX3_height_4 rfl rfl (fun c4 => ?_) (fun c4 => ?_)
  · skip
    refine Z_iconst 18 (-1) dX3_height_17 rfl rfl ?_
    exact Z_iret dX3_height_18 rfl ⟨rfl, rfl⟩
  · skip
    refine Z_iload_n 8 2 dX3_height_7 rfl rfl ?_
    refine Z_if_lt 11 17 dX3_height_8 rfl rfl (fun c8 => ?_) (fun c8 => ?_)
    · skip
      refine Z_iconst 18 (-1) dX3_height_17 rfl rfl ?_
      exact Z_iret dX3_height_18 rfl ⟨rfl, rfl⟩
    · skip
      refine Z_iload_n 12 2 dX3_height_11 rfl rfl ?_
      refine Z_bipush 14 (nI 99) dX3_height_12 rfl rfl ?_
      refine Z_icmp_le 17 19 dX3_height_14 rfl rfl (fun c14 => ?_) (fun c14 => ?_)
      · skip
        exact absurd ⟨bI_1 c4, c8, Int32.not_lt.mpr c14⟩ hne
      · skip
        refine Z_iconst 18 (-1) dX3_height_17 rfl rfl ?_
        exact Z_iret dX3_height_18 rfl ⟨rfl, rfl⟩

set_option maxRecDepth 100000 in
set_option maxHeartbeats 4000000 in
theorem zX3_height {G : zG} {l : Launch} {h : Nat → Nat} {m : zM} (s : Nat) (hs : s ≤ 4) (hst : m 0 5 = nI s) (hh : hOk h) (i : Nat) (hi : i < 8) (y : Int32) (hy0 : ¬ y < 0) (hy1 : ¬ nI 99 < y) : zMet G l yX3_height mX3_height [.ref (G.1 + 0), .int (nI i), .int y] (zw h m) (fun r w => r = some (.int (mRem h m s 2 i)) ∧ w = zw (hRem h s) (up2 (mRem h m s) 2 i (y))) 0 0 := by
  refine zMet_of [(0, .ref (G.1 + 0)), (1, .int (nI i)), (2, .int y)] (by decide +kernel) rfl (Or.inl rfl) (Nat.le_of_ble_eq_true rfl) rfl ?_
  refine Z_iload_n 1 1 dX3_height_0 rfl rfl ?_
  refine Z_callS 4 [_] (zX3_isHedge _) dX3_height_1 rfl qX3_37 kX3_isHedge rfl rfl ⟨(Nat.le_of_ble_eq_true rfl), (Nat.le_of_ble_eq_true rfl)⟩ (Nat.le_of_ble_eq_true rfl) ⟨rfl, rfl⟩ ⟨(Nat.le_of_ble_eq_true rfl), (Nat.le_of_ble_eq_true rfl)⟩ (fun r9 w9 hp9 => ?_)
  obtain ⟨rfl, rfl⟩ := hp9
  refine Z_if_eq 7 17 dX3_height_4 rfl rfl (fun c4 => absurd c4 (bI_ne (hdgN hi))) (fun c4 => ?_)
  refine Z_iload_n 8 2 dX3_height_7 rfl rfl ?_
  refine Z_if_lt 11 17 dX3_height_8 rfl rfl (fun c8 => absurd c8 (hy0)) (fun c8 => ?_)
  refine Z_iload_n 12 2 dX3_height_11 rfl rfl ?_
  refine Z_bipush 14 (nI 99) dX3_height_12 rfl rfl ?_
  refine Z_icmp_le 17 19 dX3_height_14 rfl rfl (fun c14 => ?_) (fun c14 => absurd (Int32.not_lt.mp hy1) c14)
  refine Z_aload_n 20 0 dX3_height_19 rfl rfl ?_
  refine Z_callV 23 [] 3 (zX3_remember s hs hst hh) dX3_height_20 rfl qX3_41 kX3_remember rfl rfl (Nat.le_of_ble_eq_true rfl) rfl rfl ⟨(Nat.le_of_ble_eq_true rfl), (Nat.le_of_ble_eq_true rfl)⟩ (Nat.le_of_ble_eq_true rfl) ⟨rfl, rfl⟩ ⟨(Nat.le_of_ble_eq_true rfl), (Nat.le_of_ble_eq_true rfl)⟩ (fun r9 w9 hp9 => ?_)
  obtain ⟨rfl, rfl⟩ := hp9
  refine Z_aload_n 24 0 dX3_height_23 rfl rfl ?_
  refine Z_getR 27 dX3_height_24 rfl fX3_10 (Nat.le_of_ble_eq_true rfl) rfl rfl ?_
  refine Z_getR 30 dX3_height_27 rfl fX3_44 (Nat.le_of_ble_eq_true rfl) rfl rfl ?_
  refine Z_iload_n 31 1 dX3_height_30 rfl rfl ?_
  refine Z_ialn 32 dX3_height_31 rfl (Nat.le_of_ble_eq_true rfl) rfl (by first | assumption | omega) (by decide) ?_
  refine Z_istore_n 33 [(3, _), (0, _), (1, _), (2, _)] dX3_height_32 rfl (Nat.le_of_ble_eq_true rfl) rfl ?_
  refine Z_aload_n 34 1 dX3_height_33 rfl rfl ?_
  refine Z_getR 37 dX3_height_34 rfl fX3_10 (Nat.le_of_ble_eq_true rfl) rfl rfl ?_
  refine Z_getR 40 dX3_height_37 rfl fX3_44 (Nat.le_of_ble_eq_true rfl) rfl rfl ?_
  refine Z_iload_n 41 2 dX3_height_40 rfl rfl ?_
  refine Z_iload_n 42 3 dX3_height_41 rfl rfl ?_
  refine Z_iasn 43 dX3_height_42 rfl (Nat.le_of_ble_eq_true rfl) rfl (by first | assumption | omega) (by decide) ?_
  refine Z_iload_n 44 0 dX3_height_43 rfl rfl ?_
  exact Z_iret dX3_height_44 rfl ⟨rfl, rfl⟩

set_option maxRecDepth 100000 in
set_option maxHeartbeats 4000000 in
theorem eX3_growth {G : zG} {l : Launch} {h : Nat → Nat} {m : zM} (x y : Int32) (hne : ¬ (hdg x ∧ ¬ y < 0 ∧ ¬ nI 5 < y)) : zMet G l yX3_growth mX3_growth [.ref (G.1 + 0), .int x, .int y] (zw h m) (fun r w => r = some (.int (-1)) ∧ w = zw h m) 0 0 := by
  refine zMet_of [(0, .ref (G.1 + 0)), (1, .int x), (2, .int y)] (by decide +kernel) rfl (Or.inl rfl) (Nat.le_of_ble_eq_true rfl) rfl ?_
  refine Z_iload_n 1 1 dX3_growth_0 rfl rfl ?_
  refine Z_callS 4 [_] (zX3_isHedge _) dX3_growth_1 rfl qX3_37 kX3_isHedge rfl rfl ⟨(Nat.le_of_ble_eq_true rfl), (Nat.le_of_ble_eq_true rfl)⟩ (Nat.le_of_ble_eq_true rfl) ⟨rfl, rfl⟩ ⟨(Nat.le_of_ble_eq_true rfl), (Nat.le_of_ble_eq_true rfl)⟩ (fun r9 w9 hp9 => ?_)
  obtain ⟨rfl, rfl⟩ := hp9
  refine Z_if_eq 7 16 dX3_growth_4 rfl rfl (fun c4 => ?_) (fun c4 => ?_)
  · skip
    refine Z_iconst 17 (-1) dX3_growth_16 rfl rfl ?_
    exact Z_iret dX3_growth_17 rfl ⟨rfl, rfl⟩
  · skip
    refine Z_iload_n 8 2 dX3_growth_7 rfl rfl ?_
    refine Z_if_lt 11 16 dX3_growth_8 rfl rfl (fun c8 => ?_) (fun c8 => ?_)
    · skip
      refine Z_iconst 17 (-1) dX3_growth_16 rfl rfl ?_
      exact Z_iret dX3_growth_17 rfl ⟨rfl, rfl⟩
    · skip
      refine Z_iload_n 12 2 dX3_growth_11 rfl rfl ?_
      refine Z_iconst 13 (nI 5) dX3_growth_12 rfl rfl ?_
      refine Z_icmp_le 16 18 dX3_growth_13 rfl rfl (fun c13 => ?_) (fun c13 => ?_)
      · skip
        exact absurd ⟨bI_1 c4, c8, Int32.not_lt.mpr c13⟩ hne
      · skip
        refine Z_iconst 17 (-1) dX3_growth_16 rfl rfl ?_
        exact Z_iret dX3_growth_17 rfl ⟨rfl, rfl⟩

set_option maxRecDepth 100000 in
set_option maxHeartbeats 4000000 in
theorem zX3_growth {G : zG} {l : Launch} {h : Nat → Nat} {m : zM} (s : Nat) (hs : s ≤ 4) (hst : m 0 5 = nI s) (hh : hOk h) (i : Nat) (hi : i < 8) (y : Int32) (hy0 : ¬ y < 0) (hy1 : ¬ nI 5 < y) : zMet G l yX3_growth mX3_growth [.ref (G.1 + 0), .int (nI i), .int y] (zw h m) (fun r w => r = some (.int (mRem h m s 3 i)) ∧ w = zw (hRem h s) (up2 (mRem h m s) 3 i (y))) 0 0 := by
  refine zMet_of [(0, .ref (G.1 + 0)), (1, .int (nI i)), (2, .int y)] (by decide +kernel) rfl (Or.inl rfl) (Nat.le_of_ble_eq_true rfl) rfl ?_
  refine Z_iload_n 1 1 dX3_growth_0 rfl rfl ?_
  refine Z_callS 4 [_] (zX3_isHedge _) dX3_growth_1 rfl qX3_37 kX3_isHedge rfl rfl ⟨(Nat.le_of_ble_eq_true rfl), (Nat.le_of_ble_eq_true rfl)⟩ (Nat.le_of_ble_eq_true rfl) ⟨rfl, rfl⟩ ⟨(Nat.le_of_ble_eq_true rfl), (Nat.le_of_ble_eq_true rfl)⟩ (fun r9 w9 hp9 => ?_)
  obtain ⟨rfl, rfl⟩ := hp9
  refine Z_if_eq 7 16 dX3_growth_4 rfl rfl (fun c4 => absurd c4 (bI_ne (hdgN hi))) (fun c4 => ?_)
  refine Z_iload_n 8 2 dX3_growth_7 rfl rfl ?_
  refine Z_if_lt 11 16 dX3_growth_8 rfl rfl (fun c8 => absurd c8 (hy0)) (fun c8 => ?_)
  refine Z_iload_n 12 2 dX3_growth_11 rfl rfl ?_
  refine Z_iconst 13 (nI 5) dX3_growth_12 rfl rfl ?_
  refine Z_icmp_le 16 18 dX3_growth_13 rfl rfl (fun c13 => ?_) (fun c13 => absurd (Int32.not_lt.mp hy1) c13)
  refine Z_aload_n 19 0 dX3_growth_18 rfl rfl ?_
  refine Z_callV 22 [] 3 (zX3_remember s hs hst hh) dX3_growth_19 rfl qX3_41 kX3_remember rfl rfl (Nat.le_of_ble_eq_true rfl) rfl rfl ⟨(Nat.le_of_ble_eq_true rfl), (Nat.le_of_ble_eq_true rfl)⟩ (Nat.le_of_ble_eq_true rfl) ⟨rfl, rfl⟩ ⟨(Nat.le_of_ble_eq_true rfl), (Nat.le_of_ble_eq_true rfl)⟩ (fun r9 w9 hp9 => ?_)
  obtain ⟨rfl, rfl⟩ := hp9
  refine Z_aload_n 23 0 dX3_growth_22 rfl rfl ?_
  refine Z_getR 26 dX3_growth_23 rfl fX3_10 (Nat.le_of_ble_eq_true rfl) rfl rfl ?_
  refine Z_getR 29 dX3_growth_26 rfl fX3_48 (Nat.le_of_ble_eq_true rfl) rfl rfl ?_
  refine Z_iload_n 30 1 dX3_growth_29 rfl rfl ?_
  refine Z_ialn 31 dX3_growth_30 rfl (Nat.le_of_ble_eq_true rfl) rfl (by first | assumption | omega) (by decide) ?_
  refine Z_istore_n 32 [(3, _), (0, _), (1, _), (2, _)] dX3_growth_31 rfl (Nat.le_of_ble_eq_true rfl) rfl ?_
  refine Z_aload_n 33 1 dX3_growth_32 rfl rfl ?_
  refine Z_getR 36 dX3_growth_33 rfl fX3_10 (Nat.le_of_ble_eq_true rfl) rfl rfl ?_
  refine Z_getR 39 dX3_growth_36 rfl fX3_48 (Nat.le_of_ble_eq_true rfl) rfl rfl ?_
  refine Z_iload_n 40 2 dX3_growth_39 rfl rfl ?_
  refine Z_iload_n 41 3 dX3_growth_40 rfl rfl ?_
  refine Z_iasn 42 dX3_growth_41 rfl (Nat.le_of_ble_eq_true rfl) rfl (by first | assumption | omega) (by decide) ?_
  refine Z_iload_n 43 0 dX3_growth_42 rfl rfl ?_
  exact Z_iret dX3_growth_43 rfl ⟨rfl, rfl⟩

set_option maxRecDepth 100000 in
set_option maxHeartbeats 4000000 in
theorem eX3_nest {G : zG} {l : Launch} {h : Nat → Nat} {m : zM} (x y : Int32) (hne : ¬ (hdg x ∧ ¬ y < 0 ∧ ¬ nI 30 < y)) : zMet G l yX3_nest mX3_nest [.ref (G.1 + 0), .int x, .int y] (zw h m) (fun r w => r = some (.int (-1)) ∧ w = zw h m) 0 0 := by
  refine zMet_of [(0, .ref (G.1 + 0)), (1, .int x), (2, .int y)] (by decide +kernel) rfl (Or.inl rfl) (Nat.le_of_ble_eq_true rfl) rfl ?_
  refine Z_iload_n 1 1 dX3_nest_0 rfl rfl ?_
  refine Z_callS 4 [_] (zX3_isHedge _) dX3_nest_1 rfl qX3_37 kX3_isHedge rfl rfl ⟨(Nat.le_of_ble_eq_true rfl), (Nat.le_of_ble_eq_true rfl)⟩ (Nat.le_of_ble_eq_true rfl) ⟨rfl, rfl⟩ ⟨(Nat.le_of_ble_eq_true rfl), (Nat.le_of_ble_eq_true rfl)⟩ (fun r9 w9 hp9 => ?_)
  obtain ⟨rfl, rfl⟩ := hp9
  refine Z_if_eq 7 17 dX3_nest_4 rfl rfl (fun c4 => ?_) (fun c4 => ?_)
  · skip
    refine Z_iconst 18 (-1) dX3_nest_17 rfl rfl ?_
    exact Z_iret dX3_nest_18 rfl ⟨rfl, rfl⟩
  · skip
    refine Z_iload_n 8 2 dX3_nest_7 rfl rfl ?_
    refine Z_if_lt 11 17 dX3_nest_8 rfl rfl (fun c8 => ?_) (fun c8 => ?_)
    · skip
      refine Z_iconst 18 (-1) dX3_nest_17 rfl rfl ?_
      exact Z_iret dX3_nest_18 rfl ⟨rfl, rfl⟩
    · skip
      refine Z_iload_n 12 2 dX3_nest_11 rfl rfl ?_
      refine Z_bipush 14 (nI 30) dX3_nest_12 rfl rfl ?_
      refine Z_icmp_le 17 19 dX3_nest_14 rfl rfl (fun c14 => ?_) (fun c14 => ?_)
      · skip
        exact absurd ⟨bI_1 c4, c8, Int32.not_lt.mpr c14⟩ hne
      · skip
        refine Z_iconst 18 (-1) dX3_nest_17 rfl rfl ?_
        exact Z_iret dX3_nest_18 rfl ⟨rfl, rfl⟩

set_option maxRecDepth 100000 in
set_option maxHeartbeats 4000000 in
theorem zX3_nest {G : zG} {l : Launch} {h : Nat → Nat} {m : zM} (s : Nat) (hs : s ≤ 4) (hst : m 0 5 = nI s) (hh : hOk h) (i : Nat) (hi : i < 8) (y : Int32) (hy0 : ¬ y < 0) (hy1 : ¬ nI 30 < y) : zMet G l yX3_nest mX3_nest [.ref (G.1 + 0), .int (nI i), .int y] (zw h m) (fun r w => r = some (.int (mRem h m s 4 i)) ∧ w = zw (hRem h s) (up2 (mRem h m s) 4 i (mRem h m s 1 9 + y))) 0 0 := by
  refine zMet_of [(0, .ref (G.1 + 0)), (1, .int (nI i)), (2, .int y)] (by decide +kernel) rfl (Or.inl rfl) (Nat.le_of_ble_eq_true rfl) rfl ?_
  refine Z_iload_n 1 1 dX3_nest_0 rfl rfl ?_
  refine Z_callS 4 [_] (zX3_isHedge _) dX3_nest_1 rfl qX3_37 kX3_isHedge rfl rfl ⟨(Nat.le_of_ble_eq_true rfl), (Nat.le_of_ble_eq_true rfl)⟩ (Nat.le_of_ble_eq_true rfl) ⟨rfl, rfl⟩ ⟨(Nat.le_of_ble_eq_true rfl), (Nat.le_of_ble_eq_true rfl)⟩ (fun r9 w9 hp9 => ?_)
  obtain ⟨rfl, rfl⟩ := hp9
  refine Z_if_eq 7 17 dX3_nest_4 rfl rfl (fun c4 => absurd c4 (bI_ne (hdgN hi))) (fun c4 => ?_)
  refine Z_iload_n 8 2 dX3_nest_7 rfl rfl ?_
  refine Z_if_lt 11 17 dX3_nest_8 rfl rfl (fun c8 => absurd c8 (hy0)) (fun c8 => ?_)
  refine Z_iload_n 12 2 dX3_nest_11 rfl rfl ?_
  refine Z_bipush 14 (nI 30) dX3_nest_12 rfl rfl ?_
  refine Z_icmp_le 17 19 dX3_nest_14 rfl rfl (fun c14 => ?_) (fun c14 => absurd (Int32.not_lt.mp hy1) c14)
  refine Z_aload_n 20 0 dX3_nest_19 rfl rfl ?_
  refine Z_callV 23 [] 3 (zX3_remember s hs hst hh) dX3_nest_20 rfl qX3_41 kX3_remember rfl rfl (Nat.le_of_ble_eq_true rfl) rfl rfl ⟨(Nat.le_of_ble_eq_true rfl), (Nat.le_of_ble_eq_true rfl)⟩ (Nat.le_of_ble_eq_true rfl) ⟨rfl, rfl⟩ ⟨(Nat.le_of_ble_eq_true rfl), (Nat.le_of_ble_eq_true rfl)⟩ (fun r9 w9 hp9 => ?_)
  obtain ⟨rfl, rfl⟩ := hp9
  refine Z_aload_n 24 0 dX3_nest_23 rfl rfl ?_
  refine Z_getR 27 dX3_nest_24 rfl fX3_10 (Nat.le_of_ble_eq_true rfl) rfl rfl ?_
  refine Z_getR 30 dX3_nest_27 rfl fX3_51 (Nat.le_of_ble_eq_true rfl) rfl rfl ?_
  refine Z_iload_n 31 1 dX3_nest_30 rfl rfl ?_
  refine Z_ialn 32 dX3_nest_31 rfl (Nat.le_of_ble_eq_true rfl) rfl (by first | assumption | omega) (by decide) ?_
  refine Z_istore_n 33 [(3, _), (0, _), (1, _), (2, _)] dX3_nest_32 rfl (Nat.le_of_ble_eq_true rfl) rfl ?_
  refine Z_aload_n 34 1 dX3_nest_33 rfl rfl ?_
  refine Z_getR 37 dX3_nest_34 rfl fX3_10 (Nat.le_of_ble_eq_true rfl) rfl rfl ?_
  refine Z_getR 40 dX3_nest_37 rfl fX3_51 (Nat.le_of_ble_eq_true rfl) rfl rfl ?_
  refine Z_iload_n 41 2 dX3_nest_40 rfl rfl ?_
  refine Z_aload_n 42 1 dX3_nest_41 rfl rfl ?_
  refine Z_getR 45 dX3_nest_42 rfl fX3_10 (Nat.le_of_ble_eq_true rfl) rfl rfl ?_
  refine Z_getI 48 dX3_nest_45 rfl fX3_54 (Nat.le_of_ble_eq_true rfl) rfl rfl ?_
  refine Z_iload_n 49 3 dX3_nest_48 rfl rfl ?_
  refine Z_iadd 50 dX3_nest_49 rfl ?_
  refine Z_iasn 51 dX3_nest_50 rfl (Nat.le_of_ble_eq_true rfl) rfl (by first | assumption | omega) (by decide) ?_
  refine Z_iload_n 52 0 dX3_nest_51 rfl rfl ?_
  exact Z_iret dX3_nest_52 rfl ⟨rfl, rfl⟩

set_option maxRecDepth 100000 in
set_option maxHeartbeats 4000000 in
theorem eX3_clip {G : zG} {l : Launch} {h : Nat → Nat} {m : zM} (x y : Int32) (hne : ¬ (hdg x ∧ ¬ y < nI 1 ∧ ¬ nI 99 < y)) : zMet G l yX3_clip mX3_clip [.ref (G.1 + 0), .int x, .int y] (zw h m) (fun r w => r = some (.int (-1)) ∧ w = zw h m) 0 0 := by
  refine zMet_of [(0, .ref (G.1 + 0)), (1, .int x), (2, .int y)] (by decide +kernel) rfl (Or.inl rfl) (Nat.le_of_ble_eq_true rfl) rfl ?_
  refine Z_iload_n 1 1 dX3_clip_0 rfl rfl ?_
  refine Z_callS 4 [_] (zX3_isHedge _) dX3_clip_1 rfl qX3_37 kX3_isHedge rfl rfl ⟨(Nat.le_of_ble_eq_true rfl), (Nat.le_of_ble_eq_true rfl)⟩ (Nat.le_of_ble_eq_true rfl) ⟨rfl, rfl⟩ ⟨(Nat.le_of_ble_eq_true rfl), (Nat.le_of_ble_eq_true rfl)⟩ (fun r9 w9 hp9 => ?_)
  obtain ⟨rfl, rfl⟩ := hp9
  refine Z_if_eq 7 18 dX3_clip_4 rfl rfl (fun c4 => ?_) (fun c4 => ?_)
  · skip
    refine Z_iconst 19 (-1) dX3_clip_18 rfl rfl ?_
    exact Z_iret dX3_clip_19 rfl ⟨rfl, rfl⟩
  · skip
    refine Z_iload_n 8 2 dX3_clip_7 rfl rfl ?_
    refine Z_iconst 9 (nI 1) dX3_clip_8 rfl rfl ?_
    refine Z_icmp_lt 12 18 dX3_clip_9 rfl rfl (fun c9 => ?_) (fun c9 => ?_)
    · skip
      refine Z_iconst 19 (-1) dX3_clip_18 rfl rfl ?_
      exact Z_iret dX3_clip_19 rfl ⟨rfl, rfl⟩
    · skip
      refine Z_iload_n 13 2 dX3_clip_12 rfl rfl ?_
      refine Z_bipush 15 (nI 99) dX3_clip_13 rfl rfl ?_
      refine Z_icmp_le 18 20 dX3_clip_15 rfl rfl (fun c15 => ?_) (fun c15 => ?_)
      · skip
        exact absurd ⟨bI_1 c4, c9, Int32.not_lt.mpr c15⟩ hne
      · skip
        refine Z_iconst 19 (-1) dX3_clip_18 rfl rfl ?_
        exact Z_iret dX3_clip_19 rfl ⟨rfl, rfl⟩

def clipR (m : zM) (i : Nat) (y : Int32) : Int32 := if sNest m 1 i then nI 3 else if m 2 i < y then nI 4 else nI 10 + (m 2 i - y)
def clipM (m : zM) (i : Nat) (y : Int32) : zM := if sNest m 1 i then refM m else if m 2 i < y then refM m else cutM m 1 i y
theorem clip_1 {m : zM} {i : Nat} {y : Int32} (h : sNest m 1 i) : clipR m i y = nI 3 ∧ clipM m i y = refM m := ⟨if_pos h, if_pos h⟩
theorem clip_2 {m : zM} {i : Nat} {y : Int32} (h : ¬ sNest m 1 i) (h2 : m 2 i < y) : clipR m i y = nI 4 ∧ clipM m i y = refM m := ⟨(if_neg h).trans (if_pos h2), (if_neg h).trans (if_pos h2)⟩
theorem clip_3 {m : zM} {i : Nat} {y : Int32} (h : ¬ sNest m 1 i) (h2 : ¬ m 2 i < y) : clipR m i y = nI 10 + (m 2 i - y) ∧ clipM m i y = cutM m 1 i y := ⟨(if_neg h).trans (if_neg h2), (if_neg h).trans (if_neg h2)⟩
theorem rw_of {G : zG} {r : Option Value} {v v' : Int32} {w : zW} {h : Nat → Nat} {m m' : zM} (e : v' = v ∧ m' = m) : some (Value.int v) = some (Value.int v') ∧ zw h m = zw h m' := by rw [e.1, e.2]; exact ⟨rfl, rfl⟩
theorem cutM_2 (m : zM) (i : Nat) (y : Int32) : cutM m 1 i y 2 i = m 2 i - y := by simp [cutM, up2]
set_option maxRecDepth 100000 in
set_option maxHeartbeats 4000000 in
theorem zX3_clip {G : zG} {l : Launch} {h : Nat → Nat} {m : zM} (s : Nat) (hs : s ≤ 4) (hst : m 0 5 = nI s) (hh : hOk h) (i : Nat) (hi : i < 8) (y : Int32) (hy0 : ¬ y < nI 1) (hy1 : ¬ nI 99 < y) : zMet G l yX3_clip mX3_clip [.ref (G.1 + 0), .int (nI i), .int y] (zw h m) (fun r w => r = some (.int (clipR (mRem h m s) i y)) ∧ w = zw (hRem h s) (clipM (mRem h m s) i y)) 0 0 := by
  refine zMet_of [(0, .ref (G.1 + 0)), (1, .int (nI i)), (2, .int y)] (by decide +kernel) rfl (Or.inl rfl) (Nat.le_of_ble_eq_true rfl) rfl ?_
  refine Z_iload_n 1 1 dX3_clip_0 rfl rfl ?_
  refine Z_callS 4 [_] (zX3_isHedge _) dX3_clip_1 rfl qX3_37 kX3_isHedge rfl rfl ⟨(Nat.le_of_ble_eq_true rfl), (Nat.le_of_ble_eq_true rfl)⟩ (Nat.le_of_ble_eq_true rfl) ⟨rfl, rfl⟩ ⟨(Nat.le_of_ble_eq_true rfl), (Nat.le_of_ble_eq_true rfl)⟩ (fun r9 w9 hp9 => ?_)
  obtain ⟨rfl, rfl⟩ := hp9
  refine Z_if_eq 7 18 dX3_clip_4 rfl rfl (fun c4 => absurd c4 (bI_ne (hdgN hi))) (fun c4 => ?_)
  refine Z_iload_n 8 2 dX3_clip_7 rfl rfl ?_
  refine Z_iconst 9 (nI 1) dX3_clip_8 rfl rfl ?_
  refine Z_icmp_lt 12 18 dX3_clip_9 rfl rfl (fun c9 => absurd c9 (hy0)) (fun c9 => ?_)
  refine Z_iload_n 13 2 dX3_clip_12 rfl rfl ?_
  refine Z_bipush 15 (nI 99) dX3_clip_13 rfl rfl ?_
  refine Z_icmp_le 18 20 dX3_clip_15 rfl rfl (fun c15 => ?_) (fun c15 => absurd (Int32.not_lt.mp hy1) c15)
  refine Z_aload_n 21 0 dX3_clip_20 rfl rfl ?_
  refine Z_callV 24 [] 3 (zX3_remember s hs hst hh) dX3_clip_21 rfl qX3_41 kX3_remember rfl rfl (Nat.le_of_ble_eq_true rfl) rfl rfl ⟨(Nat.le_of_ble_eq_true rfl), (Nat.le_of_ble_eq_true rfl)⟩ (Nat.le_of_ble_eq_true rfl) ⟨rfl, rfl⟩ ⟨(Nat.le_of_ble_eq_true rfl), (Nat.le_of_ble_eq_true rfl)⟩ (fun r9 w9 hp9 => ?_)
  obtain ⟨rfl, rfl⟩ := hp9
  refine Z_aload_n 25 0 dX3_clip_24 rfl rfl ?_
  refine Z_getR 28 dX3_clip_25 rfl fX3_10 (Nat.le_of_ble_eq_true rfl) rfl rfl ?_
  refine Z_iload_n 29 1 dX3_clip_28 rfl rfl ?_
  refine Z_callV 32 [_] 1 (zX1_isNested 1 (Or.inl rfl) i hi) dX3_clip_29 rfl qX3_58 kX1_isNested rfl rfl (Nat.le_of_ble_eq_true rfl) rfl rfl ⟨(Nat.le_of_ble_eq_true rfl), (Nat.le_of_ble_eq_true rfl)⟩ (Nat.le_of_ble_eq_true rfl) ⟨rfl, rfl⟩ ⟨(Nat.le_of_ble_eq_true rfl), (Nat.le_of_ble_eq_true rfl)⟩ (fun r9 w9 hp9 => ?_)
  obtain ⟨rfl, rfl⟩ := hp9
  refine Z_if_eq 35 41 dX3_clip_32 rfl rfl (fun c32 => ?_) (fun c32 => ?_)
  · skip
    refine Z_iload_n 42 2 dX3_clip_41 rfl rfl ?_
    refine Z_aload_n 43 0 dX3_clip_42 rfl rfl ?_
    refine Z_getR 46 dX3_clip_43 rfl fX3_10 (Nat.le_of_ble_eq_true rfl) rfl rfl ?_
    refine Z_getR 49 dX3_clip_46 rfl fX3_44 (Nat.le_of_ble_eq_true rfl) rfl rfl ?_
    refine Z_iload_n 50 1 dX3_clip_49 rfl rfl ?_
    refine Z_ialn 51 dX3_clip_50 rfl (Nat.le_of_ble_eq_true rfl) rfl (by first | assumption | omega) (by decide) ?_
    refine Z_icmp_le 54 60 dX3_clip_51 rfl rfl (fun c51 => ?_) (fun c51 => ?_)
    · skip
      refine Z_aload_n 61 0 dX3_clip_60 rfl rfl ?_
      refine Z_getR 64 dX3_clip_61 rfl fX3_10 (Nat.le_of_ble_eq_true rfl) rfl rfl ?_
      refine Z_iload_n 65 1 dX3_clip_64 rfl rfl ?_
      refine Z_iload_n 66 2 dX3_clip_65 rfl rfl ?_
      refine Z_callV 69 [_, _] 1 (zX1_cutOff 1 (Or.inl rfl) i hi y) dX3_clip_66 rfl qX3_65 kX1_cutOff rfl rfl (Nat.le_of_ble_eq_true rfl) rfl rfl ⟨(Nat.le_of_ble_eq_true rfl), (Nat.le_of_ble_eq_true rfl)⟩ (Nat.le_of_ble_eq_true rfl) ⟨rfl, rfl⟩ ⟨(Nat.le_of_ble_eq_true rfl), (Nat.le_of_ble_eq_true rfl)⟩ (fun r9 w9 hp9 => ?_)
      obtain ⟨rfl, rfl⟩ := hp9
      refine Z_bipush 71 (nI 10) dX3_clip_69 rfl rfl ?_
      refine Z_aload_n 72 0 dX3_clip_71 rfl rfl ?_
      refine Z_getR 75 dX3_clip_72 rfl fX3_10 (Nat.le_of_ble_eq_true rfl) rfl rfl ?_
      refine Z_getR 78 dX3_clip_75 rfl fX3_44 (Nat.le_of_ble_eq_true rfl) rfl rfl ?_
      refine Z_iload_n 79 1 dX3_clip_78 rfl rfl ?_
      refine Z_ialn 80 dX3_clip_79 rfl (Nat.le_of_ble_eq_true rfl) rfl (by first | assumption | omega) (by decide) ?_
      refine Z_top (v' := .int (mRem h m s 2 i - y)) (congrArg Value.int (cutM_2 _ _ _)) ?_
      refine Z_iadd 81 dX3_clip_80 rfl ?_
      exact Z_iret dX3_clip_81 rfl (rw_of (G := G) (r := none) (w := zw h m) (clip_3 (bI_0 c32) (Int32.not_lt.mpr c51)))
    · skip
      refine Z_aload_n 55 0 dX3_clip_54 rfl rfl ?_
      refine Z_iconst 56 (nI 4) dX3_clip_55 rfl rfl ?_
      refine Z_callV 59 [_] 3 (zX3_refuse _) dX3_clip_56 rfl qX3_61 kX3_refuse rfl rfl (Nat.le_of_ble_eq_true rfl) rfl rfl ⟨(Nat.le_of_ble_eq_true rfl), (Nat.le_of_ble_eq_true rfl)⟩ (Nat.le_of_ble_eq_true rfl) ⟨rfl, rfl⟩ ⟨(Nat.le_of_ble_eq_true rfl), (Nat.le_of_ble_eq_true rfl)⟩ (fun r9 w9 hp9 => ?_)
      obtain ⟨rfl, rfl⟩ := hp9
      exact Z_iret dX3_clip_59 rfl (rw_of (G := G) (r := none) (w := zw h m) (clip_2 (bI_0 c32) (Int32.not_le.mp c51)))
  · skip
    refine Z_aload_n 36 0 dX3_clip_35 rfl rfl ?_
    refine Z_iconst 37 (nI 3) dX3_clip_36 rfl rfl ?_
    refine Z_callV 40 [_] 3 (zX3_refuse _) dX3_clip_37 rfl qX3_61 kX3_refuse rfl rfl (Nat.le_of_ble_eq_true rfl) rfl rfl ⟨(Nat.le_of_ble_eq_true rfl), (Nat.le_of_ble_eq_true rfl)⟩ (Nat.le_of_ble_eq_true rfl) ⟨rfl, rfl⟩ ⟨(Nat.le_of_ble_eq_true rfl), (Nat.le_of_ble_eq_true rfl)⟩ (fun r9 w9 hp9 => ?_)
    obtain ⟨rfl, rfl⟩ := hp9
    exact Z_iret dX3_clip_40 rfl (rw_of (G := G) (r := none) (w := zw h m) (clip_1 (bI_1 c32)))

set_option maxRecDepth 100000 in
set_option maxHeartbeats 4000000 in
theorem zX3_day {G : zG} {l : Launch} {h : Nat → Nat} {m : zM} (s : Nat) (hs : s ≤ 4) (hst : m 0 5 = nI s) (hh : hOk h) (n : Nat) (hk : sOk m 1 n) : zMet G l yX3_day mX3_day [.ref (G.1 + 0)] (zw h m) (fun r w => r = some (.int (nI (cnt (fun j => decide (sBrk (dayM (mRem h m s) 1) 1 j (nI 0))) n))) ∧ w = zw (hRem h s) (dayM (mRem h m s) 1)) 0 0 := by
  refine zMet_of [(0, .ref (G.1 + 0))] (by decide +kernel) rfl (Or.inl rfl) (Nat.le_of_ble_eq_true rfl) rfl ?_
  refine Z_aload_n 1 0 dX3_day_0 rfl rfl ?_
  refine Z_callV 4 [] 3 (zX3_remember s hs hst hh) dX3_day_1 rfl qX3_41 kX3_remember rfl rfl (Nat.le_of_ble_eq_true rfl) rfl rfl ⟨(Nat.le_of_ble_eq_true rfl), (Nat.le_of_ble_eq_true rfl)⟩ (Nat.le_of_ble_eq_true rfl) ⟨rfl, rfl⟩ ⟨(Nat.le_of_ble_eq_true rfl), (Nat.le_of_ble_eq_true rfl)⟩ (fun r9 w9 hp9 => ?_)
  obtain ⟨rfl, rfl⟩ := hp9
  refine Z_aload_n 5 0 dX3_day_4 rfl rfl ?_
  refine Z_getR 8 dX3_day_5 rfl fX3_10 (Nat.le_of_ble_eq_true rfl) rfl rfl ?_
  refine Z_callV 11 [] 1 (zX1_passDay 1 (Or.inl rfl)) dX3_day_8 rfl qX3_80 kX1_passDay rfl rfl (Nat.le_of_ble_eq_true rfl) rfl rfl ⟨(Nat.le_of_ble_eq_true rfl), (Nat.le_of_ble_eq_true rfl)⟩ (Nat.le_of_ble_eq_true rfl) ⟨rfl, rfl⟩ ⟨(Nat.le_of_ble_eq_true rfl), (Nat.le_of_ble_eq_true rfl)⟩ (fun r9 w9 hp9 => ?_)
  obtain ⟨rfl, rfl⟩ := hp9
  refine Z_aload_n 12 0 dX3_day_11 rfl rfl ?_
  refine Z_getR 15 dX3_day_12 rfl fX3_10 (Nat.le_of_ble_eq_true rfl) rfl rfl ?_
  refine Z_iconst 16 (-1) dX3_day_15 rfl rfl ?_
  refine Z_iconst 17 (nI 0) dX3_day_16 rfl rfl ?_
  refine Z_callV 20 [_, _] 1 (zX1_countBroken 1 (Or.inl rfl) n (dayM_sOk (mRem_sOk hh hk)) (-1) (nI 0)) dX3_day_17 rfl qX3_83 kX1_countBroken rfl rfl (Nat.le_of_ble_eq_true rfl) rfl rfl ⟨(Nat.le_of_ble_eq_true rfl), (Nat.le_of_ble_eq_true rfl)⟩ (Nat.le_of_ble_eq_true rfl) ⟨rfl, rfl⟩ ⟨(Nat.le_of_ble_eq_true rfl), (Nat.le_of_ble_eq_true rfl)⟩ (fun r9 w9 hp9 => ?_)
  obtain ⟨rfl, rfl⟩ := hp9
  exact Z_iret dX3_day_20 rfl ⟨congrArg (fun z => some (Value.int (nI z))) brk_0, rfl⟩

set_option maxRecDepth 100000 in
set_option maxHeartbeats 4000000 in
theorem eX3_cancel {G : zG} {l : Launch} {h : Nat → Nat} {m : zM} (n : Nat) (hk : m 1 8 = nI n) (x : Int32) (hne : ¬ (¬ x < 0 ∧ x < nI n)) : zMet G l yX3_cancel mX3_cancel [.ref (G.1 + 0), .int x] (zw h m) (fun r w => r = some (.int (-1)) ∧ w = zw h m) 0 0 := by
  refine zMet_of [(0, .ref (G.1 + 0)), (1, .int x)] (by decide +kernel) rfl (Or.inl rfl) (Nat.le_of_ble_eq_true rfl) rfl ?_
  refine Z_aload_n 1 0 dX3_cancel_0 rfl rfl ?_
  refine Z_iload_n 2 1 dX3_cancel_1 rfl rfl ?_
  refine Z_callV 5 [_] 3 (zX3_isTreaty n hk _) dX3_cancel_2 rfl qX3_94 kX3_isTreaty rfl rfl (Nat.le_of_ble_eq_true rfl) rfl rfl ⟨(Nat.le_of_ble_eq_true rfl), (Nat.le_of_ble_eq_true rfl)⟩ (Nat.le_of_ble_eq_true rfl) ⟨rfl, rfl⟩ ⟨(Nat.le_of_ble_eq_true rfl), (Nat.le_of_ble_eq_true rfl)⟩ (fun r9 w9 hp9 => ?_)
  obtain ⟨rfl, rfl⟩ := hp9
  refine Z_if_ne 8 10 dX3_cancel_5 rfl rfl (fun c5 => absurd c5 (fun q => q (bI_z hne))) (fun c5 => ?_)
  refine Z_iconst 9 (-1) dX3_cancel_8 rfl rfl ?_
  exact Z_iret dX3_cancel_9 rfl ⟨rfl, rfl⟩

set_option maxRecDepth 100000 in
set_option maxHeartbeats 4000000 in
theorem zX3_cancel {G : zG} {l : Launch} {h : Nat → Nat} {m : zM} (s : Nat) (hs : s ≤ 4) (hst : m 0 5 = nI s) (hh : hOk h) (n : Nat) (hn : n ≤ 14) (hk : m 1 8 = nI n) (t : Nat) (ht : t < n) : zMet G l yX3_cancel mX3_cancel [.ref (G.1 + 0), .int (nI t)] (zw h m) (fun r w => r = some (.int (nI (n - 1))) ∧ w = zw (hRem h s) (up2 (rmM (mRem h m s) 1 t n) 1 8 (nI (n - 1)))) 0 0 := by
  refine zMet_of [(0, .ref (G.1 + 0)), (1, .int (nI t))] (by decide +kernel) rfl (Or.inl rfl) (Nat.le_of_ble_eq_true rfl) rfl ?_
  refine Z_aload_n 1 0 dX3_cancel_0 rfl rfl ?_
  refine Z_iload_n 2 1 dX3_cancel_1 rfl rfl ?_
  refine Z_callV 5 [_] 3 (zX3_isTreaty n hk _) dX3_cancel_2 rfl qX3_94 kX3_isTreaty rfl rfl (Nat.le_of_ble_eq_true rfl) rfl rfl ⟨(Nat.le_of_ble_eq_true rfl), (Nat.le_of_ble_eq_true rfl)⟩ (Nat.le_of_ble_eq_true rfl) ⟨rfl, rfl⟩ ⟨(Nat.le_of_ble_eq_true rfl), (Nat.le_of_ble_eq_true rfl)⟩ (fun r9 w9 hp9 => ?_)
  obtain ⟨rfl, rfl⟩ := hp9
  refine Z_if_ne 8 10 dX3_cancel_5 rfl rfl (fun c5 => ?_) (fun c5 => absurd (bI_ne (rngN ht (by omega))) c5)
  refine Z_aload_n 11 0 dX3_cancel_10 rfl rfl ?_
  refine Z_callV 14 [] 3 (zX3_remember s hs hst hh) dX3_cancel_11 rfl qX3_41 kX3_remember rfl rfl (Nat.le_of_ble_eq_true rfl) rfl rfl ⟨(Nat.le_of_ble_eq_true rfl), (Nat.le_of_ble_eq_true rfl)⟩ (Nat.le_of_ble_eq_true rfl) ⟨rfl, rfl⟩ ⟨(Nat.le_of_ble_eq_true rfl), (Nat.le_of_ble_eq_true rfl)⟩ (fun r9 w9 hp9 => ?_)
  obtain ⟨rfl, rfl⟩ := hp9
  refine Z_aload_n 15 0 dX3_cancel_14 rfl rfl ?_
  refine Z_getR 18 dX3_cancel_15 rfl fX3_10 (Nat.le_of_ble_eq_true rfl) rfl rfl ?_
  refine Z_iload_n 19 1 dX3_cancel_18 rfl rfl ?_
  refine Z_callV 22 [_] 1 (zX1_removeTreaty 1 (Or.inl rfl) n t ht hn (by rw [mRem_o hh (by decide) (by decide)]; exact hk)) dX3_cancel_19 rfl qX3_97 kX1_removeTreaty rfl rfl (Nat.le_of_ble_eq_true rfl) rfl rfl ⟨(Nat.le_of_ble_eq_true rfl), (Nat.le_of_ble_eq_true rfl)⟩ (Nat.le_of_ble_eq_true rfl) ⟨rfl, rfl⟩ ⟨(Nat.le_of_ble_eq_true rfl), (Nat.le_of_ble_eq_true rfl)⟩ (fun r9 w9 hp9 => ?_)
  obtain ⟨rfl, rfl⟩ := hp9
  refine Z_aload_n 23 0 dX3_cancel_22 rfl rfl ?_
  refine Z_getR 26 dX3_cancel_23 rfl fX3_10 (Nat.le_of_ble_eq_true rfl) rfl rfl ?_
  refine Z_getI 29 dX3_cancel_26 rfl fX3_101 (Nat.le_of_ble_eq_true rfl) rfl rfl ?_
  refine Z_top (v' := .int (nI (n - 1))) (congrArg Value.int (up2_eq _ _ _ _)) ?_
  exact Z_iret dX3_cancel_29 rfl ⟨rfl, rfl⟩

set_option maxRecDepth 100000 in
set_option maxHeartbeats 4000000 in
theorem eX3_freeze {G : zG} {l : Launch} {h : Nat → Nat} {m : zM} (n : Nat) (hk : m 1 8 = nI n) (x y : Int32) (hne : ¬ ((¬ x < 0 ∧ x < nI n) ∧ ¬ y < nI 1 ∧ ¬ nI 30 < y)) : zMet G l yX3_freeze mX3_freeze [.ref (G.1 + 0), .int x, .int y] (zw h m) (fun r w => r = some (.int (-1)) ∧ w = zw h m) 0 0 := by
  refine zMet_of [(0, .ref (G.1 + 0)), (1, .int x), (2, .int y)] (by decide +kernel) rfl (Or.inl rfl) (Nat.le_of_ble_eq_true rfl) rfl ?_
  refine Z_aload_n 1 0 dX3_freeze_0 rfl rfl ?_
  refine Z_iload_n 2 1 dX3_freeze_1 rfl rfl ?_
  refine Z_callV 5 [_] 3 (zX3_isTreaty n hk _) dX3_freeze_2 rfl qX3_94 kX3_isTreaty rfl rfl (Nat.le_of_ble_eq_true rfl) rfl rfl ⟨(Nat.le_of_ble_eq_true rfl), (Nat.le_of_ble_eq_true rfl)⟩ (Nat.le_of_ble_eq_true rfl) ⟨rfl, rfl⟩ ⟨(Nat.le_of_ble_eq_true rfl), (Nat.le_of_ble_eq_true rfl)⟩ (fun r9 w9 hp9 => ?_)
  obtain ⟨rfl, rfl⟩ := hp9
  refine Z_if_eq 8 19 dX3_freeze_5 rfl rfl (fun c5 => ?_) (fun c5 => ?_)
  · skip
    refine Z_iconst 20 (-1) dX3_freeze_19 rfl rfl ?_
    exact Z_iret dX3_freeze_20 rfl ⟨rfl, rfl⟩
  · skip
    refine Z_iload_n 9 2 dX3_freeze_8 rfl rfl ?_
    refine Z_iconst 10 (nI 1) dX3_freeze_9 rfl rfl ?_
    refine Z_icmp_lt 13 19 dX3_freeze_10 rfl rfl (fun c10 => ?_) (fun c10 => ?_)
    · skip
      refine Z_iconst 20 (-1) dX3_freeze_19 rfl rfl ?_
      exact Z_iret dX3_freeze_20 rfl ⟨rfl, rfl⟩
    · skip
      refine Z_iload_n 14 2 dX3_freeze_13 rfl rfl ?_
      refine Z_bipush 16 (nI 30) dX3_freeze_14 rfl rfl ?_
      refine Z_icmp_le 19 21 dX3_freeze_16 rfl rfl (fun c16 => ?_) (fun c16 => ?_)
      · skip
        exact absurd ⟨bI_1 c5, c10, Int32.not_lt.mpr c16⟩ hne
      · skip
        refine Z_iconst 20 (-1) dX3_freeze_19 rfl rfl ?_
        exact Z_iret dX3_freeze_20 rfl ⟨rfl, rfl⟩

def frM (m : zM) (t : Nat) (y : Int32) : zM := if sBrk m 1 t (nI 0) then up2 (up2 m 1 10 (m 1 10 + nI 1)) 9 t (m 1 9 + y) else up2 m 9 t (m 1 9 + y)
def frR (m : zM) (t : Nat) : Int32 := if sBrk m 1 t (nI 0) then m 1 10 + nI 1 else m 1 10
theorem fr_1 {m : zM} {t : Nat} {y : Int32} (h : sBrk m 1 t (nI 0)) : frR m t = m 1 10 + nI 1 ∧ frM m t y = up2 (up2 m 1 10 (m 1 10 + nI 1)) 9 t (m 1 9 + y) := ⟨if_pos h, if_pos h⟩
theorem fr_2 {m : zM} {t : Nat} {y : Int32} (h : ¬ sBrk m 1 t (nI 0)) : frR m t = m 1 10 ∧ frM m t y = up2 m 9 t (m 1 9 + y) := ⟨if_neg h, if_neg h⟩
set_option maxRecDepth 100000 in
set_option maxHeartbeats 4000000 in
theorem zX3_freeze {G : zG} {l : Launch} {h : Nat → Nat} {m : zM} (s : Nat) (hs : s ≤ 4) (hst : m 0 5 = nI s) (hh : hOk h) (n : Nat) (hk : sOk m 1 n) (t : Nat) (ht : t < n) (y : Int32) (hy0 : ¬ y < nI 1) (hy1 : ¬ nI 30 < y) : zMet G l yX3_freeze mX3_freeze [.ref (G.1 + 0), .int (nI t), .int y] (zw h m) (fun r w => r = some (.int (frR (mRem h m s) t)) ∧ w = zw (hRem h s) (frM (mRem h m s) t y)) 0 0 := by
  refine zMet_of [(0, .ref (G.1 + 0)), (1, .int (nI t)), (2, .int y)] (by decide +kernel) rfl (Or.inl rfl) (Nat.le_of_ble_eq_true rfl) rfl ?_
  have hn := hk.2.1
  have ht14 : t < 14 := by omega
  refine Z_aload_n 1 0 dX3_freeze_0 rfl rfl ?_
  refine Z_iload_n 2 1 dX3_freeze_1 rfl rfl ?_
  refine Z_callV 5 [_] 3 (zX3_isTreaty n hk.1 _) dX3_freeze_2 rfl qX3_94 kX3_isTreaty rfl rfl (Nat.le_of_ble_eq_true rfl) rfl rfl ⟨(Nat.le_of_ble_eq_true rfl), (Nat.le_of_ble_eq_true rfl)⟩ (Nat.le_of_ble_eq_true rfl) ⟨rfl, rfl⟩ ⟨(Nat.le_of_ble_eq_true rfl), (Nat.le_of_ble_eq_true rfl)⟩ (fun r9 w9 hp9 => ?_)
  obtain ⟨rfl, rfl⟩ := hp9
  refine Z_if_eq 8 19 dX3_freeze_5 rfl rfl (fun c5 => absurd c5 (bI_ne (rngN ht (by omega)))) (fun c5 => ?_)
  refine Z_iload_n 9 2 dX3_freeze_8 rfl rfl ?_
  refine Z_iconst 10 (nI 1) dX3_freeze_9 rfl rfl ?_
  refine Z_icmp_lt 13 19 dX3_freeze_10 rfl rfl (fun c10 => absurd c10 (hy0)) (fun c10 => ?_)
  refine Z_iload_n 14 2 dX3_freeze_13 rfl rfl ?_
  refine Z_bipush 16 (nI 30) dX3_freeze_14 rfl rfl ?_
  refine Z_icmp_le 19 21 dX3_freeze_16 rfl rfl (fun c16 => ?_) (fun c16 => absurd (Int32.not_lt.mp hy1) c16)
  refine Z_aload_n 22 0 dX3_freeze_21 rfl rfl ?_
  refine Z_callV 25 [] 3 (zX3_remember s hs hst hh) dX3_freeze_22 rfl qX3_41 kX3_remember rfl rfl (Nat.le_of_ble_eq_true rfl) rfl rfl ⟨(Nat.le_of_ble_eq_true rfl), (Nat.le_of_ble_eq_true rfl)⟩ (Nat.le_of_ble_eq_true rfl) ⟨rfl, rfl⟩ ⟨(Nat.le_of_ble_eq_true rfl), (Nat.le_of_ble_eq_true rfl)⟩ (fun r9 w9 hp9 => ?_)
  obtain ⟨rfl, rfl⟩ := hp9
  refine Z_aload_n 26 0 dX3_freeze_25 rfl rfl ?_
  refine Z_getR 29 dX3_freeze_26 rfl fX3_10 (Nat.le_of_ble_eq_true rfl) rfl rfl ?_
  refine Z_iload_n 30 1 dX3_freeze_29 rfl rfl ?_
  refine Z_callV 33 [_] 1 (zX1_isBroken 1 (Or.inl rfl) n (mRem_sOk hh hk) t ht) dX3_freeze_30 rfl qX3_104 kX1_isBroken rfl rfl (Nat.le_of_ble_eq_true rfl) rfl rfl ⟨(Nat.le_of_ble_eq_true rfl), (Nat.le_of_ble_eq_true rfl)⟩ (Nat.le_of_ble_eq_true rfl) ⟨rfl, rfl⟩ ⟨(Nat.le_of_ble_eq_true rfl), (Nat.le_of_ble_eq_true rfl)⟩ (fun r9 w9 hp9 => ?_)
  obtain ⟨rfl, rfl⟩ := hp9
  refine Z_if_eq 36 49 dX3_freeze_33 rfl rfl (fun c33 => ?_) (fun c33 => ?_)
  · skip
    refine Z_aload_n 50 0 dX3_freeze_49 rfl rfl ?_
    refine Z_getR 53 dX3_freeze_50 rfl fX3_10 (Nat.le_of_ble_eq_true rfl) rfl rfl ?_
    refine Z_getR 56 dX3_freeze_53 rfl fX3_110 (Nat.le_of_ble_eq_true rfl) rfl rfl ?_
    refine Z_iload_n 57 1 dX3_freeze_56 rfl rfl ?_
    refine Z_aload_n 58 0 dX3_freeze_57 rfl rfl ?_
    refine Z_getR 61 dX3_freeze_58 rfl fX3_10 (Nat.le_of_ble_eq_true rfl) rfl rfl ?_
    refine Z_getI 64 dX3_freeze_61 rfl fX3_54 (Nat.le_of_ble_eq_true rfl) rfl rfl ?_
    refine Z_top (v' := .int (mRem h m s 1 9)) (congrArg Value.int (by first | rfl | (simp [up2]; done))) ?_
    refine Z_iload_n 65 2 dX3_freeze_64 rfl rfl ?_
    refine Z_iadd 66 dX3_freeze_65 rfl ?_
    refine Z_iasn 67 dX3_freeze_66 rfl (Nat.le_of_ble_eq_true rfl) rfl (by first | assumption | omega) (by decide) ?_
    refine Z_aload_n 68 0 dX3_freeze_67 rfl rfl ?_
    refine Z_getR 71 dX3_freeze_68 rfl fX3_10 (Nat.le_of_ble_eq_true rfl) rfl rfl ?_
    refine Z_getI 74 dX3_freeze_71 rfl fX3_107 (Nat.le_of_ble_eq_true rfl) rfl rfl ?_
    refine Z_top (v' := .int (frR (mRem h m s) t)) (congrArg Value.int (by rw [(fr_2 (y := y) (bI_0 c33)).1]; simp [up2])) ?_
    exact Z_iret dX3_freeze_74 rfl ⟨rfl, by rw [(fr_2 (y := y) (bI_0 c33)).2]⟩
  · skip
    refine Z_aload_n 37 0 dX3_freeze_36 rfl rfl ?_
    refine Z_getR 40 dX3_freeze_37 rfl fX3_10 (Nat.le_of_ble_eq_true rfl) rfl rfl ?_
    refine Z_dup 41 dX3_freeze_40 rfl rfl ?_
    refine Z_getI 44 dX3_freeze_41 rfl fX3_107 (Nat.le_of_ble_eq_true rfl) rfl rfl ?_
    refine Z_iconst 45 (nI 1) dX3_freeze_44 rfl rfl ?_
    refine Z_iadd 46 dX3_freeze_45 rfl ?_
    refine Z_putI 49 .int dX3_freeze_46 rfl fX3_107 ft_1_10 (Nat.le_of_ble_eq_true rfl) rfl rfl rfl rfl ?_
    refine Z_aload_n 50 0 dX3_freeze_49 rfl rfl ?_
    refine Z_getR 53 dX3_freeze_50 rfl fX3_10 (Nat.le_of_ble_eq_true rfl) rfl rfl ?_
    refine Z_getR 56 dX3_freeze_53 rfl fX3_110 (Nat.le_of_ble_eq_true rfl) rfl rfl ?_
    refine Z_iload_n 57 1 dX3_freeze_56 rfl rfl ?_
    refine Z_aload_n 58 0 dX3_freeze_57 rfl rfl ?_
    refine Z_getR 61 dX3_freeze_58 rfl fX3_10 (Nat.le_of_ble_eq_true rfl) rfl rfl ?_
    refine Z_getI 64 dX3_freeze_61 rfl fX3_54 (Nat.le_of_ble_eq_true rfl) rfl rfl ?_
    refine Z_top (v' := .int (mRem h m s 1 9)) (congrArg Value.int (by first | rfl | (simp [up2]; done))) ?_
    refine Z_iload_n 65 2 dX3_freeze_64 rfl rfl ?_
    refine Z_iadd 66 dX3_freeze_65 rfl ?_
    refine Z_iasn 67 dX3_freeze_66 rfl (Nat.le_of_ble_eq_true rfl) rfl (by first | assumption | omega) (by decide) ?_
    refine Z_aload_n 68 0 dX3_freeze_67 rfl rfl ?_
    refine Z_getR 71 dX3_freeze_68 rfl fX3_10 (Nat.le_of_ble_eq_true rfl) rfl rfl ?_
    refine Z_getI 74 dX3_freeze_71 rfl fX3_107 (Nat.le_of_ble_eq_true rfl) rfl rfl ?_
    refine Z_top (v' := .int (frR (mRem h m s) t)) (congrArg Value.int (by rw [(fr_1 (y := y) (bI_1 c33)).1]; simp [up2])) ?_
    exact Z_iret dX3_freeze_74 rfl ⟨rfl, by rw [(fr_1 (y := y) (bI_1 c33)).2]⟩

set_option maxRecDepth 100000 in
set_option maxHeartbeats 4000000 in
theorem eX3_thaw {G : zG} {l : Launch} {h : Nat → Nat} {m : zM} (n : Nat) (hk : m 1 8 = nI n) (x : Int32) (hne : ¬ (¬ x < 0 ∧ x < nI n)) : zMet G l yX3_thaw mX3_thaw [.ref (G.1 + 0), .int x] (zw h m) (fun r w => r = some (.int (-1)) ∧ w = zw h m) 0 0 := by
  refine zMet_of [(0, .ref (G.1 + 0)), (1, .int x)] (by decide +kernel) rfl (Or.inl rfl) (Nat.le_of_ble_eq_true rfl) rfl ?_
  refine Z_aload_n 1 0 dX3_thaw_0 rfl rfl ?_
  refine Z_iload_n 2 1 dX3_thaw_1 rfl rfl ?_
  refine Z_callV 5 [_] 3 (zX3_isTreaty n hk _) dX3_thaw_2 rfl qX3_94 kX3_isTreaty rfl rfl (Nat.le_of_ble_eq_true rfl) rfl rfl ⟨(Nat.le_of_ble_eq_true rfl), (Nat.le_of_ble_eq_true rfl)⟩ (Nat.le_of_ble_eq_true rfl) ⟨rfl, rfl⟩ ⟨(Nat.le_of_ble_eq_true rfl), (Nat.le_of_ble_eq_true rfl)⟩ (fun r9 w9 hp9 => ?_)
  obtain ⟨rfl, rfl⟩ := hp9
  refine Z_if_ne 8 10 dX3_thaw_5 rfl rfl (fun c5 => absurd c5 (fun q => q (bI_z hne))) (fun c5 => ?_)
  refine Z_iconst 9 (-1) dX3_thaw_8 rfl rfl ?_
  exact Z_iret dX3_thaw_9 rfl ⟨rfl, rfl⟩

def thR (m : zM) (t : Nat) : Int32 := if sForce m 1 t then nI 5 else if m 1 10 < m 9 t - m 1 9 then nI 6 else nI 10 + (m 1 10 - (m 9 t - m 1 9))
def thM (m : zM) (t : Nat) : zM := if sForce m 1 t then refM m else if m 1 10 < m 9 t - m 1 9 then refM m else up2 (up2 m 1 10 (m 1 10 - (m 9 t - m 1 9))) 9 t (m 1 9)
theorem th_1 {m : zM} {t : Nat} (h : sForce m 1 t) : thR m t = nI 5 ∧ thM m t = refM m := ⟨if_pos h, if_pos h⟩
theorem th_2 {m : zM} {t : Nat} (h : ¬ sForce m 1 t) (h2 : m 1 10 < m 9 t - m 1 9) : thR m t = nI 6 ∧ thM m t = refM m := ⟨(if_neg h).trans (if_pos h2), (if_neg h).trans (if_pos h2)⟩
theorem th_3 {m : zM} {t : Nat} (h : ¬ sForce m 1 t) (h2 : ¬ m 1 10 < m 9 t - m 1 9) : thR m t = nI 10 + (m 1 10 - (m 9 t - m 1 9)) ∧ thM m t = up2 (up2 m 1 10 (m 1 10 - (m 9 t - m 1 9))) 9 t (m 1 9) := ⟨(if_neg h).trans (if_neg h2), (if_neg h).trans (if_neg h2)⟩
set_option maxRecDepth 100000 in
set_option maxHeartbeats 4000000 in
theorem zX3_thaw {G : zG} {l : Launch} {h : Nat → Nat} {m : zM} (s : Nat) (hs : s ≤ 4) (hst : m 0 5 = nI s) (hh : hOk h) (n : Nat) (hk : sOk m 1 n) (t : Nat) (ht : t < n) : zMet G l yX3_thaw mX3_thaw [.ref (G.1 + 0), .int (nI t)] (zw h m) (fun r w => r = some (.int (thR (mRem h m s) t)) ∧ w = zw (hRem h s) (thM (mRem h m s) t)) 0 0 := by
  refine zMet_of [(0, .ref (G.1 + 0)), (1, .int (nI t))] (by decide +kernel) rfl (Or.inl rfl) (Nat.le_of_ble_eq_true rfl) rfl ?_
  have hn := hk.2.1
  have ht14 : t < 14 := by omega
  refine Z_aload_n 1 0 dX3_thaw_0 rfl rfl ?_
  refine Z_iload_n 2 1 dX3_thaw_1 rfl rfl ?_
  refine Z_callV 5 [_] 3 (zX3_isTreaty n hk.1 _) dX3_thaw_2 rfl qX3_94 kX3_isTreaty rfl rfl (Nat.le_of_ble_eq_true rfl) rfl rfl ⟨(Nat.le_of_ble_eq_true rfl), (Nat.le_of_ble_eq_true rfl)⟩ (Nat.le_of_ble_eq_true rfl) ⟨rfl, rfl⟩ ⟨(Nat.le_of_ble_eq_true rfl), (Nat.le_of_ble_eq_true rfl)⟩ (fun r9 w9 hp9 => ?_)
  obtain ⟨rfl, rfl⟩ := hp9
  refine Z_if_ne 8 10 dX3_thaw_5 rfl rfl (fun c5 => ?_) (fun c5 => absurd (bI_ne (rngN ht (by omega))) c5)
  refine Z_aload_n 11 0 dX3_thaw_10 rfl rfl ?_
  refine Z_callV 14 [] 3 (zX3_remember s hs hst hh) dX3_thaw_11 rfl qX3_41 kX3_remember rfl rfl (Nat.le_of_ble_eq_true rfl) rfl rfl ⟨(Nat.le_of_ble_eq_true rfl), (Nat.le_of_ble_eq_true rfl)⟩ (Nat.le_of_ble_eq_true rfl) ⟨rfl, rfl⟩ ⟨(Nat.le_of_ble_eq_true rfl), (Nat.le_of_ble_eq_true rfl)⟩ (fun r9 w9 hp9 => ?_)
  obtain ⟨rfl, rfl⟩ := hp9
  refine Z_aload_n 15 0 dX3_thaw_14 rfl rfl ?_
  refine Z_getR 18 dX3_thaw_15 rfl fX3_10 (Nat.le_of_ble_eq_true rfl) rfl rfl ?_
  refine Z_iload_n 19 1 dX3_thaw_18 rfl rfl ?_
  refine Z_callV 22 [_] 1 (zX1_isInForce 1 (Or.inl rfl) t (by omega)) dX3_thaw_19 rfl qX3_113 kX1_isInForce rfl rfl (Nat.le_of_ble_eq_true rfl) rfl rfl ⟨(Nat.le_of_ble_eq_true rfl), (Nat.le_of_ble_eq_true rfl)⟩ (Nat.le_of_ble_eq_true rfl) ⟨rfl, rfl⟩ ⟨(Nat.le_of_ble_eq_true rfl), (Nat.le_of_ble_eq_true rfl)⟩ (fun r9 w9 hp9 => ?_)
  obtain ⟨rfl, rfl⟩ := hp9
  refine Z_if_eq 25 31 dX3_thaw_22 rfl rfl (fun c22 => ?_) (fun c22 => ?_)
  · skip
    refine Z_aload_n 32 0 dX3_thaw_31 rfl rfl ?_
    refine Z_getR 35 dX3_thaw_32 rfl fX3_10 (Nat.le_of_ble_eq_true rfl) rfl rfl ?_
    refine Z_getR 38 dX3_thaw_35 rfl fX3_110 (Nat.le_of_ble_eq_true rfl) rfl rfl ?_
    refine Z_iload_n 39 1 dX3_thaw_38 rfl rfl ?_
    refine Z_ialn 40 dX3_thaw_39 rfl (Nat.le_of_ble_eq_true rfl) rfl (by first | assumption | omega) (by decide) ?_
    refine Z_aload_n 41 0 dX3_thaw_40 rfl rfl ?_
    refine Z_getR 44 dX3_thaw_41 rfl fX3_10 (Nat.le_of_ble_eq_true rfl) rfl rfl ?_
    refine Z_getI 47 dX3_thaw_44 rfl fX3_54 (Nat.le_of_ble_eq_true rfl) rfl rfl ?_
    refine Z_isub 48 dX3_thaw_47 rfl ?_
    refine Z_istore_n 49 [(2, _), (0, _), (1, _)] dX3_thaw_48 rfl (Nat.le_of_ble_eq_true rfl) rfl ?_
    refine Z_iload_n 50 0 dX3_thaw_49 rfl rfl ?_
    refine Z_aload_n 51 1 dX3_thaw_50 rfl rfl ?_
    refine Z_getR 54 dX3_thaw_51 rfl fX3_10 (Nat.le_of_ble_eq_true rfl) rfl rfl ?_
    refine Z_getI 57 dX3_thaw_54 rfl fX3_107 (Nat.le_of_ble_eq_true rfl) rfl rfl ?_
    refine Z_icmp_le 60 67 dX3_thaw_57 rfl rfl (fun c57 => ?_) (fun c57 => ?_)
    · skip
      refine Z_aload_n 68 1 dX3_thaw_67 rfl rfl ?_
      refine Z_getR 71 dX3_thaw_68 rfl fX3_10 (Nat.le_of_ble_eq_true rfl) rfl rfl ?_
      refine Z_dup 72 dX3_thaw_71 rfl rfl ?_
      refine Z_getI 75 dX3_thaw_72 rfl fX3_107 (Nat.le_of_ble_eq_true rfl) rfl rfl ?_
      refine Z_iload_n 76 0 dX3_thaw_75 rfl rfl ?_
      refine Z_isub 77 dX3_thaw_76 rfl ?_
      refine Z_putI 80 .int dX3_thaw_77 rfl fX3_107 ft_1_10 (Nat.le_of_ble_eq_true rfl) rfl rfl rfl rfl ?_
      refine Z_aload_n 81 1 dX3_thaw_80 rfl rfl ?_
      refine Z_getR 84 dX3_thaw_81 rfl fX3_10 (Nat.le_of_ble_eq_true rfl) rfl rfl ?_
      refine Z_getR 87 dX3_thaw_84 rfl fX3_110 (Nat.le_of_ble_eq_true rfl) rfl rfl ?_
      refine Z_iload_n 88 2 dX3_thaw_87 rfl rfl ?_
      refine Z_aload_n 89 1 dX3_thaw_88 rfl rfl ?_
      refine Z_getR 92 dX3_thaw_89 rfl fX3_10 (Nat.le_of_ble_eq_true rfl) rfl rfl ?_
      refine Z_getI 95 dX3_thaw_92 rfl fX3_54 (Nat.le_of_ble_eq_true rfl) rfl rfl ?_
      refine Z_top (v' := .int (mRem h m s 1 9)) (congrArg Value.int (by simp [up2])) ?_
      refine Z_iasn 96 dX3_thaw_95 rfl (Nat.le_of_ble_eq_true rfl) rfl (by first | assumption | omega) (by decide) ?_
      refine Z_bipush 98 (nI 10) dX3_thaw_96 rfl rfl ?_
      refine Z_aload_n 99 1 dX3_thaw_98 rfl rfl ?_
      refine Z_getR 102 dX3_thaw_99 rfl fX3_10 (Nat.le_of_ble_eq_true rfl) rfl rfl ?_
      refine Z_getI 105 dX3_thaw_102 rfl fX3_107 (Nat.le_of_ble_eq_true rfl) rfl rfl ?_
      refine Z_top (v' := .int (mRem h m s 1 10 - (mRem h m s 9 t - mRem h m s 1 9))) (congrArg Value.int (by simp [up2])) ?_
      refine Z_iadd 106 dX3_thaw_105 rfl ?_
      exact Z_iret dX3_thaw_106 rfl (rw_of (G := G) (r := none) (w := zw h m) (th_3 (bI_0 c22) (Int32.not_lt.mpr c57)))
    · skip
      refine Z_aload_n 61 1 dX3_thaw_60 rfl rfl ?_
      refine Z_bipush 63 (nI 6) dX3_thaw_61 rfl rfl ?_
      refine Z_callV 66 [_] 3 (zX3_refuse _) dX3_thaw_63 rfl qX3_61 kX3_refuse rfl rfl (Nat.le_of_ble_eq_true rfl) rfl rfl ⟨(Nat.le_of_ble_eq_true rfl), (Nat.le_of_ble_eq_true rfl)⟩ (Nat.le_of_ble_eq_true rfl) ⟨rfl, rfl⟩ ⟨(Nat.le_of_ble_eq_true rfl), (Nat.le_of_ble_eq_true rfl)⟩ (fun r9 w9 hp9 => ?_)
      obtain ⟨rfl, rfl⟩ := hp9
      exact Z_iret dX3_thaw_66 rfl (rw_of (G := G) (r := none) (w := zw h m) (th_2 (bI_0 c22) (Int32.not_le.mp c57)))
  · skip
    refine Z_aload_n 26 0 dX3_thaw_25 rfl rfl ?_
    refine Z_iconst 27 (nI 5) dX3_thaw_26 rfl rfl ?_
    refine Z_callV 30 [_] 3 (zX3_refuse _) dX3_thaw_27 rfl qX3_61 kX3_refuse rfl rfl (Nat.le_of_ble_eq_true rfl) rfl rfl ⟨(Nat.le_of_ble_eq_true rfl), (Nat.le_of_ble_eq_true rfl)⟩ (Nat.le_of_ble_eq_true rfl) ⟨rfl, rfl⟩ ⟨(Nat.le_of_ble_eq_true rfl), (Nat.le_of_ble_eq_true rfl)⟩ (fun r9 w9 hp9 => ?_)
    obtain ⟨rfl, rfl⟩ := hp9
    exact Z_iret dX3_thaw_30 rfl (rw_of (G := G) (r := none) (w := zw h m) (th_1 (bI_1 c22)))

def apR (L : Nat) (x : Int32) : Int32 := if ¬ x < nI 33 ∧ ¬ nI 126 < x then (if nI L < nI 60 then nI (L + 1) else -3) else -1
def apM (m : zM) (L : Nat) (x : Int32) : zM := if ¬ x < nI 33 ∧ ¬ nI 126 < x then (if nI L < nI 60 then up2 (up2 m 69 L x) 68 1 (nI (L + 1)) else m) else m
theorem ap_1 {m : zM} {L : Nat} {x : Int32} (h : ¬ (¬ x < nI 33 ∧ ¬ nI 126 < x)) : apR L x = -1 ∧ apM m L x = m := ⟨if_neg h, if_neg h⟩
theorem ap_2 {m : zM} {L : Nat} {x : Int32} (h : ¬ x < nI 33 ∧ ¬ nI 126 < x) (h2 : ¬ nI L < nI 60) : apR L x = -3 ∧ apM m L x = m := ⟨(if_pos h).trans (if_neg h2), (if_pos h).trans (if_neg h2)⟩
theorem ap_3 {m : zM} {L : Nat} {x : Int32} (h : ¬ x < nI 33 ∧ ¬ nI 126 < x) (h2 : nI L < nI 60) : apR L x = nI (L + 1) ∧ apM m L x = up2 (up2 m 69 L x) 68 1 (nI (L + 1)) := ⟨(if_pos h).trans (if_pos h2), (if_pos h).trans (if_pos h2)⟩
set_option maxRecDepth 100000 in
set_option maxHeartbeats 4000000 in
theorem zX3_append {G : zG} {l : Launch} {h : Nat → Nat} {m : zM} (L : Nat) (hL : L ≤ 60) (hl : m 68 1 = nI L) (x : Int32) : zMet G l yX3_append mX3_append [.ref (G.1 + 0), .int x] (zw h m) (fun r w => r = some (.int (apR L x)) ∧ w = zw h (apM m L x)) 0 0 := by
  refine zMet_of [(0, .ref (G.1 + 0)), (1, .int x)] (by decide +kernel) rfl (Or.inl rfl) (Nat.le_of_ble_eq_true rfl) rfl ?_
  refine Z_iload_n 1 1 dX3_append_0 rfl rfl ?_
  refine Z_bipush 3 (nI 33) dX3_append_1 rfl rfl ?_
  refine Z_icmp_lt 6 12 dX3_append_3 rfl rfl (fun c3 => ?_) (fun c3 => ?_)
  · skip
    refine Z_iconst 13 (-1) dX3_append_12 rfl rfl ?_
    exact Z_iret dX3_append_13 rfl (by first | exact rw_of (G := G) (r := none) (w := zw h m) (ap_1 (fun q => q.1 c3)) | exact rw_of (G := G) (r := none) (w := zw h m) (ap_1 (fun q => q.2 (Int32.not_le.mp c9))))
  · skip
    refine Z_iload_n 7 1 dX3_append_6 rfl rfl ?_
    refine Z_bipush 9 (nI 126) dX3_append_7 rfl rfl ?_
    refine Z_icmp_le 12 14 dX3_append_9 rfl rfl (fun c9 => ?_) (fun c9 => ?_)
    · skip
      refine Z_aload_n 15 0 dX3_append_14 rfl rfl ?_
      refine Z_getR 18 dX3_append_15 rfl fX3_33 (Nat.le_of_ble_eq_true rfl) rfl rfl ?_
      refine Z_getI 21 dX3_append_18 rfl fX3_116 (Nat.le_of_ble_eq_true rfl) rfl rfl ?_
      refine Z_top (congrArg Value.int hl) ?_
      refine Z_bipush 23 (nI 60) dX3_append_21 rfl rfl ?_
      refine Z_icmp_lt 26 29 dX3_append_23 rfl rfl (fun c23 => ?_) (fun c23 => ?_)
      · skip
        refine Z_aload_n 30 0 dX3_append_29 rfl rfl ?_
        refine Z_getR 33 dX3_append_30 rfl fX3_33 (Nat.le_of_ble_eq_true rfl) rfl rfl ?_
        refine Z_getR 36 dX3_append_33 rfl fX3_119 (Nat.le_of_ble_eq_true rfl) rfl rfl ?_
        refine Z_aload_n 37 0 dX3_append_36 rfl rfl ?_
        refine Z_getR 40 dX3_append_37 rfl fX3_33 (Nat.le_of_ble_eq_true rfl) rfl rfl ?_
        refine Z_getI 43 dX3_append_40 rfl fX3_116 (Nat.le_of_ble_eq_true rfl) rfl rfl ?_
        refine Z_top (congrArg Value.int hl) ?_
        refine Z_iload_n 44 1 dX3_append_43 rfl rfl ?_
        refine Z_iasn 45 dX3_append_44 rfl (Nat.le_of_ble_eq_true rfl) rfl ((nI_ltI (by omega) (by decide)).mp c23) (by decide) ?_
        refine Z_aload_n 46 0 dX3_append_45 rfl rfl ?_
        refine Z_getR 49 dX3_append_46 rfl fX3_33 (Nat.le_of_ble_eq_true rfl) rfl rfl ?_
        refine Z_dup 50 dX3_append_49 rfl rfl ?_
        refine Z_getI 53 dX3_append_50 rfl fX3_116 (Nat.le_of_ble_eq_true rfl) rfl rfl ?_
        refine Z_top (v' := .int (nI L)) (congrArg Value.int (by simp [up2, hl])) ?_
        refine Z_iconst 54 (nI 1) dX3_append_53 rfl rfl ?_
        refine Z_iadd 55 dX3_append_54 rfl ?_
        refine Z_top (v' := .int (nI (L + 1))) (congrArg Value.int (nI_1 L)) ?_
        refine Z_putI 58 .int dX3_append_55 rfl fX3_116 ft_0_1 (Nat.le_of_ble_eq_true rfl) rfl rfl rfl rfl ?_
        refine Z_aload_n 59 0 dX3_append_58 rfl rfl ?_
        refine Z_getR 62 dX3_append_59 rfl fX3_33 (Nat.le_of_ble_eq_true rfl) rfl rfl ?_
        refine Z_getI 65 dX3_append_62 rfl fX3_116 (Nat.le_of_ble_eq_true rfl) rfl rfl ?_
        refine Z_top (v' := .int (nI (L + 1))) (congrArg Value.int (up2_eq _ _ _ _)) ?_
        exact Z_iret dX3_append_65 rfl (rw_of (G := G) (r := none) (w := zw h m) (ap_3 ⟨c3, Int32.not_lt.mpr c9⟩ c23))
      · skip
        refine Z_bipush 28 (-3) dX3_append_26 rfl rfl ?_
        exact Z_iret dX3_append_28 rfl (rw_of (G := G) (r := none) (w := zw h m) (ap_2 ⟨c3, Int32.not_lt.mpr c9⟩ c23))
    · skip
      refine Z_iconst 13 (-1) dX3_append_12 rfl rfl ?_
      exact Z_iret dX3_append_13 rfl (by first | exact rw_of (G := G) (r := none) (w := zw h m) (ap_1 (fun q => q.1 c3)) | exact rw_of (G := G) (r := none) (w := zw h m) (ap_1 (fun q => q.2 (Int32.not_le.mp c9))))

set_option maxRecDepth 100000 in
set_option maxHeartbeats 4000000 in
theorem zX3_clear {G : zG} {l : Launch} {h : Nat → Nat} {m : zM}  : zMet G l yX3_clear mX3_clear [.ref (G.1 + 0)] (zw h m) (fun r w => r = some (.int (m 68 1)) ∧ w = zw h (up2 m 68 1 (nI 0))) 0 0 := by
  refine zMet_of [(0, .ref (G.1 + 0))] (by decide +kernel) rfl (Or.inl rfl) (Nat.le_of_ble_eq_true rfl) rfl ?_
  refine Z_aload_n 1 0 dX3_clear_0 rfl rfl ?_
  refine Z_getR 4 dX3_clear_1 rfl fX3_33 (Nat.le_of_ble_eq_true rfl) rfl rfl ?_
  refine Z_getI 7 dX3_clear_4 rfl fX3_116 (Nat.le_of_ble_eq_true rfl) rfl rfl ?_
  refine Z_istore_n 8 [(1, _), (0, _)] dX3_clear_7 rfl (Nat.le_of_ble_eq_true rfl) rfl ?_
  refine Z_aload_n 9 1 dX3_clear_8 rfl rfl ?_
  refine Z_getR 12 dX3_clear_9 rfl fX3_33 (Nat.le_of_ble_eq_true rfl) rfl rfl ?_
  refine Z_iconst 13 (nI 0) dX3_clear_12 rfl rfl ?_
  refine Z_putI 16 .int dX3_clear_13 rfl fX3_116 ft_0_1 (Nat.le_of_ble_eq_true rfl) rfl rfl rfl rfl ?_
  refine Z_iload_n 17 0 dX3_clear_16 rfl rfl ?_
  exact Z_iret dX3_clear_17 rfl ⟨rfl, rfl⟩

def whyR (a b c x : Int32) : Int32 := if ¬ x < 0 ∧ ¬ nI 2 < x then (if a = 0 then -4 else if x = 0 then a else if x = nI 1 then b else c) else -1
set_option maxRecDepth 100000 in
set_option maxHeartbeats 4000000 in
theorem eX3_why {G : zG} {l : Launch} {h : Nat → Nat} {m : zM} (x : Int32) (hne : ¬ (¬ x < 0 ∧ ¬ nI 2 < x)) : zMet G l yX3_why mX3_why [.ref (G.1 + 0), .int x] (zw h m) (fun r w => r = some (.int (-1)) ∧ w = zw h m) 0 0 := by
  refine zMet_of [(0, .ref (G.1 + 0)), (1, .int x)] (by decide +kernel) rfl (Or.inl rfl) (Nat.le_of_ble_eq_true rfl) rfl ?_
  refine Z_iload_n 1 1 dX3_why_0 rfl rfl ?_
  refine Z_if_lt 4 9 dX3_why_1 rfl rfl (fun c1 => ?_) (fun c1 => ?_)
  · skip
    refine Z_iconst 10 (-1) dX3_why_9 rfl rfl ?_
    exact Z_iret dX3_why_10 rfl ⟨rfl, rfl⟩
  · skip
    refine Z_iload_n 5 1 dX3_why_4 rfl rfl ?_
    refine Z_iconst 6 (nI 2) dX3_why_5 rfl rfl ?_
    refine Z_icmp_le 9 11 dX3_why_6 rfl rfl (fun c6 => ?_) (fun c6 => ?_)
    · skip
      exact absurd ⟨c1, Int32.not_lt.mpr c6⟩ hne
    · skip
      refine Z_iconst 10 (-1) dX3_why_9 rfl rfl ?_
      exact Z_iret dX3_why_10 rfl ⟨rfl, rfl⟩

set_option maxRecDepth 100000 in
set_option maxHeartbeats 4000000 in
theorem zX3_why0 {G : zG} {l : Launch} {h : Nat → Nat} {m : zM}  : zMet G l yX3_why mX3_why [.ref (G.1 + 0), .int (nI 0)] (zw h m) (fun r w => r = some (.int (if m 0 7 = 0 then -4 else m 0 7)) ∧ w = zw h m) 0 0 := by
  refine zMet_of [(0, .ref (G.1 + 0)), (1, .int (nI 0))] (by decide +kernel) rfl (Or.inl rfl) (Nat.le_of_ble_eq_true rfl) rfl ?_
  refine Z_iload_n 1 1 dX3_why_0 rfl rfl ?_
  refine Z_if_lt 4 9 dX3_why_1 rfl rfl (fun c1 => absurd c1 (by decide)) (fun c1 => ?_)
  refine Z_iload_n 5 1 dX3_why_4 rfl rfl ?_
  refine Z_iconst 6 (nI 2) dX3_why_5 rfl rfl ?_
  refine Z_icmp_le 9 11 dX3_why_6 rfl rfl (fun c6 => ?_) (fun c6 => absurd (by decide) c6)
  refine Z_aload_n 12 0 dX3_why_11 rfl rfl ?_
  refine Z_getI 15 dX3_why_12 rfl fX3_126 (Nat.le_of_ble_eq_true rfl) rfl rfl ?_
  refine Z_if_ne 18 21 dX3_why_15 rfl rfl (fun c15 => ?_) (fun c15 => ?_)
  · skip
    refine Z_iload_n 22 1 dX3_why_21 rfl rfl ?_
    refine Z_look 48 (off := 26) dX3_why_22 (by decide) (by decide) rfl ?_
    refine Z_aload_n 49 0 dX3_why_48 rfl rfl ?_
    refine Z_getI 52 dX3_why_49 rfl fX3_126 (Nat.le_of_ble_eq_true rfl) rfl rfl ?_
    exact Z_iret dX3_why_52 rfl ⟨by rw [if_neg (by simpa using c15)], rfl⟩
  · skip
    refine Z_bipush 20 (-4) dX3_why_18 rfl rfl ?_
    exact Z_iret dX3_why_20 rfl ⟨by rw [if_pos (by simpa using c15)], rfl⟩

set_option maxRecDepth 100000 in
set_option maxHeartbeats 4000000 in
theorem zX3_why1 {G : zG} {l : Launch} {h : Nat → Nat} {m : zM}  : zMet G l yX3_why mX3_why [.ref (G.1 + 0), .int (nI 1)] (zw h m) (fun r w => r = some (.int (if m 0 7 = 0 then -4 else m 0 8)) ∧ w = zw h m) 0 0 := by
  refine zMet_of [(0, .ref (G.1 + 0)), (1, .int (nI 1))] (by decide +kernel) rfl (Or.inl rfl) (Nat.le_of_ble_eq_true rfl) rfl ?_
  refine Z_iload_n 1 1 dX3_why_0 rfl rfl ?_
  refine Z_if_lt 4 9 dX3_why_1 rfl rfl (fun c1 => absurd c1 (by decide)) (fun c1 => ?_)
  refine Z_iload_n 5 1 dX3_why_4 rfl rfl ?_
  refine Z_iconst 6 (nI 2) dX3_why_5 rfl rfl ?_
  refine Z_icmp_le 9 11 dX3_why_6 rfl rfl (fun c6 => ?_) (fun c6 => absurd (by decide) c6)
  refine Z_aload_n 12 0 dX3_why_11 rfl rfl ?_
  refine Z_getI 15 dX3_why_12 rfl fX3_126 (Nat.le_of_ble_eq_true rfl) rfl rfl ?_
  refine Z_if_ne 18 21 dX3_why_15 rfl rfl (fun c15 => ?_) (fun c15 => ?_)
  · skip
    refine Z_iload_n 22 1 dX3_why_21 rfl rfl ?_
    refine Z_look 53 (off := 31) dX3_why_22 (by decide) (by decide) rfl ?_
    refine Z_aload_n 54 0 dX3_why_53 rfl rfl ?_
    refine Z_getI 57 dX3_why_54 rfl fX3_135 (Nat.le_of_ble_eq_true rfl) rfl rfl ?_
    exact Z_iret dX3_why_57 rfl ⟨by rw [if_neg (by simpa using c15)], rfl⟩
  · skip
    refine Z_bipush 20 (-4) dX3_why_18 rfl rfl ?_
    exact Z_iret dX3_why_20 rfl ⟨by rw [if_pos (by simpa using c15)], rfl⟩

set_option maxRecDepth 100000 in
set_option maxHeartbeats 4000000 in
theorem zX3_why2 {G : zG} {l : Launch} {h : Nat → Nat} {m : zM}  : zMet G l yX3_why mX3_why [.ref (G.1 + 0), .int (nI 2)] (zw h m) (fun r w => r = some (.int (if m 0 7 = 0 then -4 else m 0 9)) ∧ w = zw h m) 0 0 := by
  refine zMet_of [(0, .ref (G.1 + 0)), (1, .int (nI 2))] (by decide +kernel) rfl (Or.inl rfl) (Nat.le_of_ble_eq_true rfl) rfl ?_
  refine Z_iload_n 1 1 dX3_why_0 rfl rfl ?_
  refine Z_if_lt 4 9 dX3_why_1 rfl rfl (fun c1 => absurd c1 (by decide)) (fun c1 => ?_)
  refine Z_iload_n 5 1 dX3_why_4 rfl rfl ?_
  refine Z_iconst 6 (nI 2) dX3_why_5 rfl rfl ?_
  refine Z_icmp_le 9 11 dX3_why_6 rfl rfl (fun c6 => ?_) (fun c6 => absurd (by decide) c6)
  refine Z_aload_n 12 0 dX3_why_11 rfl rfl ?_
  refine Z_getI 15 dX3_why_12 rfl fX3_126 (Nat.le_of_ble_eq_true rfl) rfl rfl ?_
  refine Z_if_ne 18 21 dX3_why_15 rfl rfl (fun c15 => ?_) (fun c15 => ?_)
  · skip
    refine Z_iload_n 22 1 dX3_why_21 rfl rfl ?_
    refine Z_look 58 (off := 36) dX3_why_22 (by decide) (by decide) rfl ?_
    refine Z_aload_n 59 0 dX3_why_58 rfl rfl ?_
    refine Z_getI 62 dX3_why_59 rfl fX3_141 (Nat.le_of_ble_eq_true rfl) rfl rfl ?_
    exact Z_iret dX3_why_62 rfl ⟨by rw [if_neg (by simpa using c15)], rfl⟩
  · skip
    refine Z_bipush 20 (-4) dX3_why_18 rfl rfl ?_
    exact Z_iret dX3_why_20 rfl ⟨by rw [if_pos (by simpa using c15)], rfl⟩
end
section
set_option maxRecDepth 100000 in
set_option maxHeartbeats 4000000 in
theorem zX3_count0 {G : zG} {l : Launch} {h : Nat → Nat} {m : zM} (n : Nat) (hk : sOk m 1 n) : zMet G l yX3_count mX3_count [.ref (G.1 + 0), .int (nI 0)] (zw h m) (fun r w => r = some (.int (m 1 9)) ∧ w = zw h m) 0 0 := by
  refine zMet_of [(0, .ref (G.1 + 0)), (1, .int (nI 0))] (by decide +kernel) rfl (Or.inl rfl) (Nat.le_of_ble_eq_true rfl) rfl ?_
  refine Z_iload_n 1 1 dX3_count_0 rfl rfl ?_
  refine Z_tabIn 68 (off := 67) dX3_count_1 (by decide) (by decide) (by decide) rfl ?_
  refine Z_aload_n 69 0 dX3_count_68 rfl rfl ?_
  refine Z_getR 72 dX3_count_69 rfl fX3_10 (Nat.le_of_ble_eq_true rfl) rfl rfl ?_
  refine Z_getI 75 dX3_count_72 rfl fX3_54 (Nat.le_of_ble_eq_true rfl) rfl rfl ?_
  exact Z_iret dX3_count_75 rfl ⟨rfl, rfl⟩

set_option maxRecDepth 100000 in
set_option maxHeartbeats 4000000 in
theorem zX3_count1 {G : zG} {l : Launch} {h : Nat → Nat} {m : zM} (n : Nat) (hk : sOk m 1 n) : zMet G l yX3_count mX3_count [.ref (G.1 + 0), .int (nI 1)] (zw h m) (fun r w => r = some (.int (m 1 8)) ∧ w = zw h m) 0 0 := by
  refine zMet_of [(0, .ref (G.1 + 0)), (1, .int (nI 1))] (by decide +kernel) rfl (Or.inl rfl) (Nat.le_of_ble_eq_true rfl) rfl ?_
  refine Z_iload_n 1 1 dX3_count_0 rfl rfl ?_
  refine Z_tabIn 76 (off := 75) dX3_count_1 (by decide) (by decide) (by decide) rfl ?_
  refine Z_aload_n 77 0 dX3_count_76 rfl rfl ?_
  refine Z_getR 80 dX3_count_77 rfl fX3_10 (Nat.le_of_ble_eq_true rfl) rfl rfl ?_
  refine Z_getI 83 dX3_count_80 rfl fX3_101 (Nat.le_of_ble_eq_true rfl) rfl rfl ?_
  exact Z_iret dX3_count_83 rfl ⟨rfl, rfl⟩

set_option maxRecDepth 100000 in
set_option maxHeartbeats 4000000 in
theorem zX3_count2 {G : zG} {l : Launch} {h : Nat → Nat} {m : zM} (n : Nat) (hk : sOk m 1 n) : zMet G l yX3_count mX3_count [.ref (G.1 + 0), .int (nI 2)] (zw h m) (fun r w => r = some (.int (nI (cnt (fun j => decide (sForce (m) 1 j)) n))) ∧ w = zw h m) 0 0 := by
  refine zMet_of [(0, .ref (G.1 + 0)), (1, .int (nI 2))] (by decide +kernel) rfl (Or.inl rfl) (Nat.le_of_ble_eq_true rfl) rfl ?_
  refine Z_iload_n 1 1 dX3_count_0 rfl rfl ?_
  refine Z_tabIn 84 (off := 83) dX3_count_1 (by decide) (by decide) (by decide) rfl ?_
  refine Z_aload_n 85 0 dX3_count_84 rfl rfl ?_
  refine Z_getR 88 dX3_count_85 rfl fX3_10 (Nat.le_of_ble_eq_true rfl) rfl rfl ?_
  refine Z_iconst 89 (-1) dX3_count_88 rfl rfl ?_
  refine Z_callV 92 [_] 1 (zX1_countInForce 1 (Or.inl rfl) n hk (-1)) dX3_count_89 rfl qX3_144 kX1_countInForce rfl rfl (Nat.le_of_ble_eq_true rfl) rfl rfl ⟨(Nat.le_of_ble_eq_true rfl), (Nat.le_of_ble_eq_true rfl)⟩ (Nat.le_of_ble_eq_true rfl) ⟨rfl, rfl⟩ ⟨(Nat.le_of_ble_eq_true rfl), (Nat.le_of_ble_eq_true rfl)⟩ (fun r9 w9 hp9 => ?_)
  obtain ⟨rfl, rfl⟩ := hp9
  exact Z_iret dX3_count_92 rfl ⟨congrArg (fun z => some (Value.int (nI z))) brk_0, rfl⟩

set_option maxRecDepth 100000 in
set_option maxHeartbeats 4000000 in
theorem zX3_count3 {G : zG} {l : Launch} {h : Nat → Nat} {m : zM} (n : Nat) (hk : sOk m 1 n) : zMet G l yX3_count mX3_count [.ref (G.1 + 0), .int (nI 3)] (zw h m) (fun r w => r = some (.int (nI (cnt (fun j => decide (sBrk (m) 1 j (nI 0))) n))) ∧ w = zw h m) 0 0 := by
  refine zMet_of [(0, .ref (G.1 + 0)), (1, .int (nI 3))] (by decide +kernel) rfl (Or.inl rfl) (Nat.le_of_ble_eq_true rfl) rfl ?_
  refine Z_iload_n 1 1 dX3_count_0 rfl rfl ?_
  refine Z_tabIn 93 (off := 92) dX3_count_1 (by decide) (by decide) (by decide) rfl ?_
  refine Z_aload_n 94 0 dX3_count_93 rfl rfl ?_
  refine Z_getR 97 dX3_count_94 rfl fX3_10 (Nat.le_of_ble_eq_true rfl) rfl rfl ?_
  refine Z_iconst 98 (-1) dX3_count_97 rfl rfl ?_
  refine Z_iconst 99 (nI 0) dX3_count_98 rfl rfl ?_
  refine Z_callV 102 [_, _] 1 (zX1_countBroken 1 (Or.inl rfl) n hk (-1) (nI 0)) dX3_count_99 rfl qX3_83 kX1_countBroken rfl rfl (Nat.le_of_ble_eq_true rfl) rfl rfl ⟨(Nat.le_of_ble_eq_true rfl), (Nat.le_of_ble_eq_true rfl)⟩ (Nat.le_of_ble_eq_true rfl) ⟨rfl, rfl⟩ ⟨(Nat.le_of_ble_eq_true rfl), (Nat.le_of_ble_eq_true rfl)⟩ (fun r9 w9 hp9 => ?_)
  obtain ⟨rfl, rfl⟩ := hp9
  exact Z_iret dX3_count_102 rfl ⟨congrArg (fun z => some (Value.int (nI z))) brk_0, rfl⟩

set_option maxRecDepth 100000 in
set_option maxHeartbeats 4000000 in
theorem zX3_count4 {G : zG} {l : Launch} {h : Nat → Nat} {m : zM} (n : Nat) (hk : sOk m 1 n) : zMet G l yX3_count mX3_count [.ref (G.1 + 0), .int (nI 4)] (zw h m) (fun r w => r = some (.int (sumI (m 2) 8)) ∧ w = zw h m) 0 0 := by
  refine zMet_of [(0, .ref (G.1 + 0)), (1, .int (nI 4))] (by decide +kernel) rfl (Or.inl rfl) (Nat.le_of_ble_eq_true rfl) rfl ?_
  refine Z_iload_n 1 1 dX3_count_0 rfl rfl ?_
  refine Z_tabIn 103 (off := 102) dX3_count_1 (by decide) (by decide) (by decide) rfl ?_
  refine Z_aload_n 104 0 dX3_count_103 rfl rfl ?_
  refine Z_getR 107 dX3_count_104 rfl fX3_10 (Nat.le_of_ble_eq_true rfl) rfl rfl ?_
  refine Z_getR 110 dX3_count_107 rfl fX3_44 (Nat.le_of_ble_eq_true rfl) rfl rfl ?_
  refine Z_callS 113 [_] (zX3_sum 2 (by decide) rfl) dX3_count_110 rfl qX3_184 kX3_sum rfl rfl ⟨(Nat.le_of_ble_eq_true rfl), (Nat.le_of_ble_eq_true rfl)⟩ (Nat.le_of_ble_eq_true rfl) ⟨rfl, rfl⟩ ⟨(Nat.le_of_ble_eq_true rfl), (Nat.le_of_ble_eq_true rfl)⟩ (fun r9 w9 hp9 => ?_)
  obtain ⟨rfl, rfl⟩ := hp9
  exact Z_iret dX3_count_113 rfl ⟨rfl, rfl⟩

set_option maxRecDepth 100000 in
set_option maxHeartbeats 4000000 in
theorem zX3_count5 {G : zG} {l : Launch} {h : Nat → Nat} {m : zM} (n : Nat) (hk : sOk m 1 n) : zMet G l yX3_count mX3_count [.ref (G.1 + 0), .int (nI 5)] (zw h m) (fun r w => r = some (.int (nI (cnt (fun j => decide (sNest m 1 j)) 8))) ∧ w = zw h m) 0 0 := by
  refine zMet_of [(0, .ref (G.1 + 0)), (1, .int (nI 5))] (by decide +kernel) rfl (Or.inl rfl) (Nat.le_of_ble_eq_true rfl) rfl ?_
  refine Z_iload_n 1 1 dX3_count_0 rfl rfl ?_
  refine Z_tabIn 114 (off := 113) dX3_count_1 (by decide) (by decide) (by decide) rfl ?_
  refine Z_aload_n 115 0 dX3_count_114 rfl rfl ?_
  refine Z_getR 118 dX3_count_115 rfl fX3_10 (Nat.le_of_ble_eq_true rfl) rfl rfl ?_
  refine Z_callV 121 [] 1 (zX1_countNested 1 (Or.inl rfl)) dX3_count_118 rfl qX3_188 kX1_countNested rfl rfl (Nat.le_of_ble_eq_true rfl) rfl rfl ⟨(Nat.le_of_ble_eq_true rfl), (Nat.le_of_ble_eq_true rfl)⟩ (Nat.le_of_ble_eq_true rfl) ⟨rfl, rfl⟩ ⟨(Nat.le_of_ble_eq_true rfl), (Nat.le_of_ble_eq_true rfl)⟩ (fun r9 w9 hp9 => ?_)
  obtain ⟨rfl, rfl⟩ := hp9
  exact Z_iret dX3_count_121 rfl ⟨rfl, rfl⟩

set_option maxRecDepth 100000 in
set_option maxHeartbeats 4000000 in
theorem zX3_count6 {G : zG} {l : Launch} {h : Nat → Nat} {m : zM} (n : Nat) (hk : sOk m 1 n) : zMet G l yX3_count mX3_count [.ref (G.1 + 0), .int (nI 6)] (zw h m) (fun r w => r = some (.int (m 1 10)) ∧ w = zw h m) 0 0 := by
  refine zMet_of [(0, .ref (G.1 + 0)), (1, .int (nI 6))] (by decide +kernel) rfl (Or.inl rfl) (Nat.le_of_ble_eq_true rfl) rfl ?_
  refine Z_iload_n 1 1 dX3_count_0 rfl rfl ?_
  refine Z_tabIn 122 (off := 121) dX3_count_1 (by decide) (by decide) (by decide) rfl ?_
  refine Z_aload_n 123 0 dX3_count_122 rfl rfl ?_
  refine Z_getR 126 dX3_count_123 rfl fX3_10 (Nat.le_of_ble_eq_true rfl) rfl rfl ?_
  refine Z_getI 129 dX3_count_126 rfl fX3_107 (Nat.le_of_ble_eq_true rfl) rfl rfl ?_
  exact Z_iret dX3_count_129 rfl ⟨rfl, rfl⟩

set_option maxRecDepth 100000 in
set_option maxHeartbeats 4000000 in
theorem zX3_count7 {G : zG} {l : Launch} {h : Nat → Nat} {m : zM} (n : Nat) (hk : sOk m 1 n) : zMet G l yX3_count mX3_count [.ref (G.1 + 0), .int (nI 7)] (zw h m) (fun r w => r = some (.int (m 1 11)) ∧ w = zw h m) 0 0 := by
  refine zMet_of [(0, .ref (G.1 + 0)), (1, .int (nI 7))] (by decide +kernel) rfl (Or.inl rfl) (Nat.le_of_ble_eq_true rfl) rfl ?_
  refine Z_iload_n 1 1 dX3_count_0 rfl rfl ?_
  refine Z_tabIn 130 (off := 129) dX3_count_1 (by decide) (by decide) (by decide) rfl ?_
  refine Z_aload_n 131 0 dX3_count_130 rfl rfl ?_
  refine Z_getR 134 dX3_count_131 rfl fX3_10 (Nat.le_of_ble_eq_true rfl) rfl rfl ?_
  refine Z_getI 137 dX3_count_134 rfl fX3_191 (Nat.le_of_ble_eq_true rfl) rfl rfl ?_
  exact Z_iret dX3_count_137 rfl ⟨rfl, rfl⟩

set_option maxRecDepth 100000 in
set_option maxHeartbeats 4000000 in
theorem zX3_count8 {G : zG} {l : Launch} {h : Nat → Nat} {m : zM} (n : Nat) (hk : sOk m 1 n) : zMet G l yX3_count mX3_count [.ref (G.1 + 0), .int (nI 8)] (zw h m) (fun r w => r = some (.int (m 1 12)) ∧ w = zw h m) 0 0 := by
  refine zMet_of [(0, .ref (G.1 + 0)), (1, .int (nI 8))] (by decide +kernel) rfl (Or.inl rfl) (Nat.le_of_ble_eq_true rfl) rfl ?_
  refine Z_iload_n 1 1 dX3_count_0 rfl rfl ?_
  refine Z_tabIn 138 (off := 137) dX3_count_1 (by decide) (by decide) (by decide) rfl ?_
  refine Z_aload_n 139 0 dX3_count_138 rfl rfl ?_
  refine Z_getR 142 dX3_count_139 rfl fX3_10 (Nat.le_of_ble_eq_true rfl) rfl rfl ?_
  refine Z_getI 145 dX3_count_142 rfl fX3_194 (Nat.le_of_ble_eq_true rfl) rfl rfl ?_
  exact Z_iret dX3_count_145 rfl ⟨rfl, rfl⟩

set_option maxRecDepth 100000 in
set_option maxHeartbeats 4000000 in
theorem zX3_count9 {G : zG} {l : Launch} {h : Nat → Nat} {m : zM} (n : Nat) (hk : sOk m 1 n) : zMet G l yX3_count mX3_count [.ref (G.1 + 0), .int (nI 9)] (zw h m) (fun r w => r = some (.int (m 1 13)) ∧ w = zw h m) 0 0 := by
  refine zMet_of [(0, .ref (G.1 + 0)), (1, .int (nI 9))] (by decide +kernel) rfl (Or.inl rfl) (Nat.le_of_ble_eq_true rfl) rfl ?_
  refine Z_iload_n 1 1 dX3_count_0 rfl rfl ?_
  refine Z_tabIn 146 (off := 145) dX3_count_1 (by decide) (by decide) (by decide) rfl ?_
  refine Z_aload_n 147 0 dX3_count_146 rfl rfl ?_
  refine Z_getR 150 dX3_count_147 rfl fX3_10 (Nat.le_of_ble_eq_true rfl) rfl rfl ?_
  refine Z_getI 153 dX3_count_150 rfl fX3_197 (Nat.le_of_ble_eq_true rfl) rfl rfl ?_
  exact Z_iret dX3_count_153 rfl ⟨rfl, rfl⟩

set_option maxRecDepth 100000 in
set_option maxHeartbeats 4000000 in
theorem zX3_count10 {G : zG} {l : Launch} {h : Nat → Nat} {m : zM} (n : Nat) (hk : sOk m 1 n) : zMet G l yX3_count mX3_count [.ref (G.1 + 0), .int (nI 10)] (zw h m) (fun r w => r = some (.int (sumI (m 5) 8)) ∧ w = zw h m) 0 0 := by
  refine zMet_of [(0, .ref (G.1 + 0)), (1, .int (nI 10))] (by decide +kernel) rfl (Or.inl rfl) (Nat.le_of_ble_eq_true rfl) rfl ?_
  refine Z_iload_n 1 1 dX3_count_0 rfl rfl ?_
  refine Z_tabIn 154 (off := 153) dX3_count_1 (by decide) (by decide) (by decide) rfl ?_
  refine Z_aload_n 155 0 dX3_count_154 rfl rfl ?_
  refine Z_getR 158 dX3_count_155 rfl fX3_10 (Nat.le_of_ble_eq_true rfl) rfl rfl ?_
  refine Z_getR 161 dX3_count_158 rfl fX3_147 (Nat.le_of_ble_eq_true rfl) rfl rfl ?_
  refine Z_callS 164 [_] (zX3_sum 5 (by decide) rfl) dX3_count_161 rfl qX3_184 kX3_sum rfl rfl ⟨(Nat.le_of_ble_eq_true rfl), (Nat.le_of_ble_eq_true rfl)⟩ (Nat.le_of_ble_eq_true rfl) ⟨rfl, rfl⟩ ⟨(Nat.le_of_ble_eq_true rfl), (Nat.le_of_ble_eq_true rfl)⟩ (fun r9 w9 hp9 => ?_)
  obtain ⟨rfl, rfl⟩ := hp9
  exact Z_iret dX3_count_164 rfl ⟨rfl, rfl⟩

set_option maxRecDepth 100000 in
set_option maxHeartbeats 4000000 in
theorem zX3_count11 {G : zG} {l : Launch} {h : Nat → Nat} {m : zM} (n : Nat) (hk : sOk m 1 n) : zMet G l yX3_count mX3_count [.ref (G.1 + 0), .int (nI 11)] (zw h m) (fun r w => r = some (.int (m 68 1)) ∧ w = zw h m) 0 0 := by
  refine zMet_of [(0, .ref (G.1 + 0)), (1, .int (nI 11))] (by decide +kernel) rfl (Or.inl rfl) (Nat.le_of_ble_eq_true rfl) rfl ?_
  refine Z_iload_n 1 1 dX3_count_0 rfl rfl ?_
  refine Z_tabIn 165 (off := 164) dX3_count_1 (by decide) (by decide) (by decide) rfl ?_
  refine Z_aload_n 166 0 dX3_count_165 rfl rfl ?_
  refine Z_getR 169 dX3_count_166 rfl fX3_33 (Nat.le_of_ble_eq_true rfl) rfl rfl ?_
  refine Z_getI 172 dX3_count_169 rfl fX3_116 (Nat.le_of_ble_eq_true rfl) rfl rfl ?_
  exact Z_iret dX3_count_172 rfl ⟨rfl, rfl⟩

set_option maxRecDepth 100000 in
set_option maxHeartbeats 4000000 in
theorem zX3_count12 {G : zG} {l : Launch} {h : Nat → Nat} {m : zM} (n : Nat) (hk : sOk m 1 n) : zMet G l yX3_count mX3_count [.ref (G.1 + 0), .int (nI 12)] (zw h m) (fun r w => r = some (.int (m 0 5)) ∧ w = zw h m) 0 0 := by
  refine zMet_of [(0, .ref (G.1 + 0)), (1, .int (nI 12))] (by decide +kernel) rfl (Or.inl rfl) (Nat.le_of_ble_eq_true rfl) rfl ?_
  refine Z_iload_n 1 1 dX3_count_0 rfl rfl ?_
  refine Z_tabIn 173 (off := 172) dX3_count_1 (by decide) (by decide) (by decide) rfl ?_
  refine Z_aload_n 174 0 dX3_count_173 rfl rfl ?_
  refine Z_getI 177 dX3_count_174 rfl fX3_200 (Nat.le_of_ble_eq_true rfl) rfl rfl ?_
  exact Z_iret dX3_count_177 rfl ⟨rfl, rfl⟩

set_option maxRecDepth 100000 in
set_option maxHeartbeats 4000000 in
theorem eX3_count {G : zG} {l : Launch} {h : Nat → Nat} {m : zM} (x : Int32) (hne : x.toInt < 0 ∨ 12 < x.toInt) : zMet G l yX3_count mX3_count [.ref (G.1 + 0), .int x] (zw h m) (fun r w => r = some (.int (-1)) ∧ w = zw h m) 0 0 := by
  refine zMet_of [(0, .ref (G.1 + 0)), (1, .int x)] (by decide +kernel) rfl (Or.inl rfl) (Nat.le_of_ble_eq_true rfl) rfl ?_
  refine Z_iload_n 1 1 dX3_count_0 rfl rfl ?_
  refine Z_tabOut 178 dX3_count_1 hne rfl ?_
  refine Z_iconst 179 (-1) dX3_count_178 rfl rfl ?_
  exact Z_iret dX3_count_179 rfl ⟨rfl, rfl⟩

theorem bI_if {p : Prop} [Decidable p] (h : ¬ bI p = 0) : some (Value.int (nI 1)) = some (Value.int (bI p)) := bRt (bI_1 h)
theorem bI_if0 {p : Prop} [Decidable p] (h : bI p = 0) : some (Value.int (nI 0)) = some (Value.int (bI p)) := bRf (bI_0 h)
set_option maxRecDepth 100000 in
set_option maxHeartbeats 4000000 in
theorem zX3_hedge0 {G : zG} {l : Launch} {h : Nat → Nat} {m : zM} (n : Nat) (hk : sOk m 1 n) (i : Nat) (hi : i < 8) : zMet G l yX3_hedge mX3_hedge [.ref (G.1 + 0), .int (nI i), .int (nI 0)] (zw h m) (fun r w => r = some (.int (m 2 i)) ∧ w = zw h m) 0 0 := by
  refine zMet_of [(0, .ref (G.1 + 0)), (1, .int (nI i)), (2, .int (nI 0))] (by decide +kernel) rfl (Or.inl rfl) (Nat.le_of_ble_eq_true rfl) rfl ?_
  refine Z_iload_n 1 1 dX3_hedge_0 rfl rfl ?_
  refine Z_callS 4 [_] (zX3_isHedge _) dX3_hedge_1 rfl qX3_37 kX3_isHedge rfl rfl ⟨(Nat.le_of_ble_eq_true rfl), (Nat.le_of_ble_eq_true rfl)⟩ (Nat.le_of_ble_eq_true rfl) ⟨rfl, rfl⟩ ⟨(Nat.le_of_ble_eq_true rfl), (Nat.le_of_ble_eq_true rfl)⟩ (fun r9 w9 hp9 => ?_)
  obtain ⟨rfl, rfl⟩ := hp9
  refine Z_if_ne 7 9 dX3_hedge_4 rfl rfl (fun c4 => ?_) (fun c4 => absurd (bI_ne (hdgN hi)) c4)
  refine Z_iload_n 10 2 dX3_hedge_9 rfl rfl ?_
  refine Z_tabIn 56 (off := 46) dX3_hedge_10 (by decide) (by decide) (by decide) rfl ?_
  refine Z_aload_n 57 0 dX3_hedge_56 rfl rfl ?_
  refine Z_getR 60 dX3_hedge_57 rfl fX3_10 (Nat.le_of_ble_eq_true rfl) rfl rfl ?_
  refine Z_getR 63 dX3_hedge_60 rfl fX3_44 (Nat.le_of_ble_eq_true rfl) rfl rfl ?_
  refine Z_iload_n 64 1 dX3_hedge_63 rfl rfl ?_
  refine Z_ialn 65 dX3_hedge_64 rfl (Nat.le_of_ble_eq_true rfl) rfl (by first | assumption | omega) (by decide) ?_
  exact Z_iret dX3_hedge_65 rfl ⟨rfl, rfl⟩

set_option maxRecDepth 100000 in
set_option maxHeartbeats 4000000 in
theorem zX3_hedge1 {G : zG} {l : Launch} {h : Nat → Nat} {m : zM} (n : Nat) (hk : sOk m 1 n) (i : Nat) (hi : i < 8) : zMet G l yX3_hedge mX3_hedge [.ref (G.1 + 0), .int (nI i), .int (nI 1)] (zw h m) (fun r w => r = some (.int (m 3 i)) ∧ w = zw h m) 0 0 := by
  refine zMet_of [(0, .ref (G.1 + 0)), (1, .int (nI i)), (2, .int (nI 1))] (by decide +kernel) rfl (Or.inl rfl) (Nat.le_of_ble_eq_true rfl) rfl ?_
  refine Z_iload_n 1 1 dX3_hedge_0 rfl rfl ?_
  refine Z_callS 4 [_] (zX3_isHedge _) dX3_hedge_1 rfl qX3_37 kX3_isHedge rfl rfl ⟨(Nat.le_of_ble_eq_true rfl), (Nat.le_of_ble_eq_true rfl)⟩ (Nat.le_of_ble_eq_true rfl) ⟨rfl, rfl⟩ ⟨(Nat.le_of_ble_eq_true rfl), (Nat.le_of_ble_eq_true rfl)⟩ (fun r9 w9 hp9 => ?_)
  obtain ⟨rfl, rfl⟩ := hp9
  refine Z_if_ne 7 9 dX3_hedge_4 rfl rfl (fun c4 => ?_) (fun c4 => absurd (bI_ne (hdgN hi)) c4)
  refine Z_iload_n 10 2 dX3_hedge_9 rfl rfl ?_
  refine Z_tabIn 66 (off := 56) dX3_hedge_10 (by decide) (by decide) (by decide) rfl ?_
  refine Z_aload_n 67 0 dX3_hedge_66 rfl rfl ?_
  refine Z_getR 70 dX3_hedge_67 rfl fX3_10 (Nat.le_of_ble_eq_true rfl) rfl rfl ?_
  refine Z_getR 73 dX3_hedge_70 rfl fX3_48 (Nat.le_of_ble_eq_true rfl) rfl rfl ?_
  refine Z_iload_n 74 1 dX3_hedge_73 rfl rfl ?_
  refine Z_ialn 75 dX3_hedge_74 rfl (Nat.le_of_ble_eq_true rfl) rfl (by first | assumption | omega) (by decide) ?_
  exact Z_iret dX3_hedge_75 rfl ⟨rfl, rfl⟩

set_option maxRecDepth 100000 in
set_option maxHeartbeats 4000000 in
theorem zX3_hedge2 {G : zG} {l : Launch} {h : Nat → Nat} {m : zM} (n : Nat) (hk : sOk m 1 n) (i : Nat) (hi : i < 8) : zMet G l yX3_hedge mX3_hedge [.ref (G.1 + 0), .int (nI i), .int (nI 2)] (zw h m) (fun r w => r = some (.int (bI (sNest m 1 i))) ∧ w = zw h m) 0 0 := by
  refine zMet_of [(0, .ref (G.1 + 0)), (1, .int (nI i)), (2, .int (nI 2))] (by decide +kernel) rfl (Or.inl rfl) (Nat.le_of_ble_eq_true rfl) rfl ?_
  refine Z_iload_n 1 1 dX3_hedge_0 rfl rfl ?_
  refine Z_callS 4 [_] (zX3_isHedge _) dX3_hedge_1 rfl qX3_37 kX3_isHedge rfl rfl ⟨(Nat.le_of_ble_eq_true rfl), (Nat.le_of_ble_eq_true rfl)⟩ (Nat.le_of_ble_eq_true rfl) ⟨rfl, rfl⟩ ⟨(Nat.le_of_ble_eq_true rfl), (Nat.le_of_ble_eq_true rfl)⟩ (fun r9 w9 hp9 => ?_)
  obtain ⟨rfl, rfl⟩ := hp9
  refine Z_if_ne 7 9 dX3_hedge_4 rfl rfl (fun c4 => ?_) (fun c4 => absurd (bI_ne (hdgN hi)) c4)
  refine Z_iload_n 10 2 dX3_hedge_9 rfl rfl ?_
  refine Z_tabIn 76 (off := 66) dX3_hedge_10 (by decide) (by decide) (by decide) rfl ?_
  refine Z_aload_n 77 0 dX3_hedge_76 rfl rfl ?_
  refine Z_getR 80 dX3_hedge_77 rfl fX3_10 (Nat.le_of_ble_eq_true rfl) rfl rfl ?_
  refine Z_iload_n 81 1 dX3_hedge_80 rfl rfl ?_
  refine Z_callV 84 [_] 1 (zX1_isNested 1 (Or.inl rfl) i hi) dX3_hedge_81 rfl qX3_58 kX1_isNested rfl rfl (Nat.le_of_ble_eq_true rfl) rfl rfl ⟨(Nat.le_of_ble_eq_true rfl), (Nat.le_of_ble_eq_true rfl)⟩ (Nat.le_of_ble_eq_true rfl) ⟨rfl, rfl⟩ ⟨(Nat.le_of_ble_eq_true rfl), (Nat.le_of_ble_eq_true rfl)⟩ (fun r9 w9 hp9 => ?_)
  obtain ⟨rfl, rfl⟩ := hp9
  refine Z_if_eq 87 91 dX3_hedge_84 rfl rfl (fun c84 => ?_) (fun c84 => ?_)
  · skip
    refine Z_iconst 92 (nI 0) dX3_hedge_91 rfl rfl ?_
    exact Z_iret dX3_hedge_92 rfl (by first | exact ⟨bI_if c84, rfl⟩ | exact ⟨bI_if0 c84, rfl⟩)
  · skip
    refine Z_iconst 88 (nI 1) dX3_hedge_87 rfl rfl ?_
    refine Z_goto 92 dX3_hedge_88 rfl ?_
    exact Z_iret dX3_hedge_92 rfl (by first | exact ⟨bI_if c84, rfl⟩ | exact ⟨bI_if0 c84, rfl⟩)

set_option maxRecDepth 100000 in
set_option maxHeartbeats 4000000 in
theorem zX3_hedge3 {G : zG} {l : Launch} {h : Nat → Nat} {m : zM} (n : Nat) (hk : sOk m 1 n) (i : Nat) (hi : i < 8) : zMet G l yX3_hedge mX3_hedge [.ref (G.1 + 0), .int (nI i), .int (nI 3)] (zw h m) (fun r w => r = some (.int (m 4 i)) ∧ w = zw h m) 0 0 := by
  refine zMet_of [(0, .ref (G.1 + 0)), (1, .int (nI i)), (2, .int (nI 3))] (by decide +kernel) rfl (Or.inl rfl) (Nat.le_of_ble_eq_true rfl) rfl ?_
  refine Z_iload_n 1 1 dX3_hedge_0 rfl rfl ?_
  refine Z_callS 4 [_] (zX3_isHedge _) dX3_hedge_1 rfl qX3_37 kX3_isHedge rfl rfl ⟨(Nat.le_of_ble_eq_true rfl), (Nat.le_of_ble_eq_true rfl)⟩ (Nat.le_of_ble_eq_true rfl) ⟨rfl, rfl⟩ ⟨(Nat.le_of_ble_eq_true rfl), (Nat.le_of_ble_eq_true rfl)⟩ (fun r9 w9 hp9 => ?_)
  obtain ⟨rfl, rfl⟩ := hp9
  refine Z_if_ne 7 9 dX3_hedge_4 rfl rfl (fun c4 => ?_) (fun c4 => absurd (bI_ne (hdgN hi)) c4)
  refine Z_iload_n 10 2 dX3_hedge_9 rfl rfl ?_
  refine Z_tabIn 93 (off := 83) dX3_hedge_10 (by decide) (by decide) (by decide) rfl ?_
  refine Z_aload_n 94 0 dX3_hedge_93 rfl rfl ?_
  refine Z_getR 97 dX3_hedge_94 rfl fX3_10 (Nat.le_of_ble_eq_true rfl) rfl rfl ?_
  refine Z_getR 100 dX3_hedge_97 rfl fX3_51 (Nat.le_of_ble_eq_true rfl) rfl rfl ?_
  refine Z_iload_n 101 1 dX3_hedge_100 rfl rfl ?_
  refine Z_ialn 102 dX3_hedge_101 rfl (Nat.le_of_ble_eq_true rfl) rfl (by first | assumption | omega) (by decide) ?_
  exact Z_iret dX3_hedge_102 rfl ⟨rfl, rfl⟩

set_option maxRecDepth 100000 in
set_option maxHeartbeats 4000000 in
theorem zX3_hedge5 {G : zG} {l : Launch} {h : Nat → Nat} {m : zM} (n : Nat) (hk : sOk m 1 n) (i : Nat) (hi : i < 8) : zMet G l yX3_hedge mX3_hedge [.ref (G.1 + 0), .int (nI i), .int (nI 5)] (zw h m) (fun r w => r = some (.int (nI (cnt (fun j => decide (sAbout m 1 j (nI i) ∧ sBrk m 1 j (nI 0))) n))) ∧ w = zw h m) 0 0 := by
  refine zMet_of [(0, .ref (G.1 + 0)), (1, .int (nI i)), (2, .int (nI 5))] (by decide +kernel) rfl (Or.inl rfl) (Nat.le_of_ble_eq_true rfl) rfl ?_
  refine Z_iload_n 1 1 dX3_hedge_0 rfl rfl ?_
  refine Z_callS 4 [_] (zX3_isHedge _) dX3_hedge_1 rfl qX3_37 kX3_isHedge rfl rfl ⟨(Nat.le_of_ble_eq_true rfl), (Nat.le_of_ble_eq_true rfl)⟩ (Nat.le_of_ble_eq_true rfl) ⟨rfl, rfl⟩ ⟨(Nat.le_of_ble_eq_true rfl), (Nat.le_of_ble_eq_true rfl)⟩ (fun r9 w9 hp9 => ?_)
  obtain ⟨rfl, rfl⟩ := hp9
  refine Z_if_ne 7 9 dX3_hedge_4 rfl rfl (fun c4 => ?_) (fun c4 => absurd (bI_ne (hdgN hi)) c4)
  refine Z_iload_n 10 2 dX3_hedge_9 rfl rfl ?_
  refine Z_tabIn 132 (off := 122) dX3_hedge_10 (by decide) (by decide) (by decide) rfl ?_
  refine Z_aload_n 133 0 dX3_hedge_132 rfl rfl ?_
  refine Z_getR 136 dX3_hedge_133 rfl fX3_10 (Nat.le_of_ble_eq_true rfl) rfl rfl ?_
  refine Z_iload_n 137 1 dX3_hedge_136 rfl rfl ?_
  refine Z_iconst 138 (nI 0) dX3_hedge_137 rfl rfl ?_
  refine Z_callV 141 [_, _] 1 (zX1_countBroken 1 (Or.inl rfl) n hk (nI i) (nI 0)) dX3_hedge_138 rfl qX3_83 kX1_countBroken rfl rfl (Nat.le_of_ble_eq_true rfl) rfl rfl ⟨(Nat.le_of_ble_eq_true rfl), (Nat.le_of_ble_eq_true rfl)⟩ (Nat.le_of_ble_eq_true rfl) ⟨rfl, rfl⟩ ⟨(Nat.le_of_ble_eq_true rfl), (Nat.le_of_ble_eq_true rfl)⟩ (fun r9 w9 hp9 => ?_)
  obtain ⟨rfl, rfl⟩ := hp9
  exact Z_iret dX3_hedge_141 rfl ⟨rfl, rfl⟩

set_option maxRecDepth 100000 in
set_option maxHeartbeats 4000000 in
theorem zX3_hedge6 {G : zG} {l : Launch} {h : Nat → Nat} {m : zM} (n : Nat) (hk : sOk m 1 n) (i : Nat) (hi : i < 8) : zMet G l yX3_hedge mX3_hedge [.ref (G.1 + 0), .int (nI i), .int (nI 6)] (zw h m) (fun r w => r = some (.int (nI (cnt (fun j => decide (sAbout m 1 j (nI i) ∧ sForce m 1 j)) n))) ∧ w = zw h m) 0 0 := by
  refine zMet_of [(0, .ref (G.1 + 0)), (1, .int (nI i)), (2, .int (nI 6))] (by decide +kernel) rfl (Or.inl rfl) (Nat.le_of_ble_eq_true rfl) rfl ?_
  refine Z_iload_n 1 1 dX3_hedge_0 rfl rfl ?_
  refine Z_callS 4 [_] (zX3_isHedge _) dX3_hedge_1 rfl qX3_37 kX3_isHedge rfl rfl ⟨(Nat.le_of_ble_eq_true rfl), (Nat.le_of_ble_eq_true rfl)⟩ (Nat.le_of_ble_eq_true rfl) ⟨rfl, rfl⟩ ⟨(Nat.le_of_ble_eq_true rfl), (Nat.le_of_ble_eq_true rfl)⟩ (fun r9 w9 hp9 => ?_)
  obtain ⟨rfl, rfl⟩ := hp9
  refine Z_if_ne 7 9 dX3_hedge_4 rfl rfl (fun c4 => ?_) (fun c4 => absurd (bI_ne (hdgN hi)) c4)
  refine Z_iload_n 10 2 dX3_hedge_9 rfl rfl ?_
  refine Z_tabIn 142 (off := 132) dX3_hedge_10 (by decide) (by decide) (by decide) rfl ?_
  refine Z_aload_n 143 0 dX3_hedge_142 rfl rfl ?_
  refine Z_getR 146 dX3_hedge_143 rfl fX3_10 (Nat.le_of_ble_eq_true rfl) rfl rfl ?_
  refine Z_iload_n 147 1 dX3_hedge_146 rfl rfl ?_
  refine Z_callV 150 [_] 1 (zX1_countInForce 1 (Or.inl rfl) n hk (nI i)) dX3_hedge_147 rfl qX3_144 kX1_countInForce rfl rfl (Nat.le_of_ble_eq_true rfl) rfl rfl ⟨(Nat.le_of_ble_eq_true rfl), (Nat.le_of_ble_eq_true rfl)⟩ (Nat.le_of_ble_eq_true rfl) ⟨rfl, rfl⟩ ⟨(Nat.le_of_ble_eq_true rfl), (Nat.le_of_ble_eq_true rfl)⟩ (fun r9 w9 hp9 => ?_)
  obtain ⟨rfl, rfl⟩ := hp9
  exact Z_iret dX3_hedge_150 rfl ⟨rfl, rfl⟩

set_option maxRecDepth 100000 in
set_option maxHeartbeats 4000000 in
theorem zX3_hedge7 {G : zG} {l : Launch} {h : Nat → Nat} {m : zM} (n : Nat) (hk : sOk m 1 n) (i : Nat) (hi : i < 8) : zMet G l yX3_hedge mX3_hedge [.ref (G.1 + 0), .int (nI i), .int (nI 7)] (zw h m) (fun r w => r = some (.int (m 5 i)) ∧ w = zw h m) 0 0 := by
  refine zMet_of [(0, .ref (G.1 + 0)), (1, .int (nI i)), (2, .int (nI 7))] (by decide +kernel) rfl (Or.inl rfl) (Nat.le_of_ble_eq_true rfl) rfl ?_
  refine Z_iload_n 1 1 dX3_hedge_0 rfl rfl ?_
  refine Z_callS 4 [_] (zX3_isHedge _) dX3_hedge_1 rfl qX3_37 kX3_isHedge rfl rfl ⟨(Nat.le_of_ble_eq_true rfl), (Nat.le_of_ble_eq_true rfl)⟩ (Nat.le_of_ble_eq_true rfl) ⟨rfl, rfl⟩ ⟨(Nat.le_of_ble_eq_true rfl), (Nat.le_of_ble_eq_true rfl)⟩ (fun r9 w9 hp9 => ?_)
  obtain ⟨rfl, rfl⟩ := hp9
  refine Z_if_ne 7 9 dX3_hedge_4 rfl rfl (fun c4 => ?_) (fun c4 => absurd (bI_ne (hdgN hi)) c4)
  refine Z_iload_n 10 2 dX3_hedge_9 rfl rfl ?_
  refine Z_tabIn 151 (off := 141) dX3_hedge_10 (by decide) (by decide) (by decide) rfl ?_
  refine Z_aload_n 152 0 dX3_hedge_151 rfl rfl ?_
  refine Z_getR 155 dX3_hedge_152 rfl fX3_10 (Nat.le_of_ble_eq_true rfl) rfl rfl ?_
  refine Z_getR 158 dX3_hedge_155 rfl fX3_147 (Nat.le_of_ble_eq_true rfl) rfl rfl ?_
  refine Z_iload_n 159 1 dX3_hedge_158 rfl rfl ?_
  refine Z_ialn 160 dX3_hedge_159 rfl (Nat.le_of_ble_eq_true rfl) rfl (by first | assumption | omega) (by decide) ?_
  exact Z_iret dX3_hedge_160 rfl ⟨rfl, rfl⟩

set_option maxRecDepth 100000 in
set_option maxHeartbeats 4000000 in
theorem eX3_hedgeA {G : zG} {l : Launch} {h : Nat → Nat} {m : zM} (x y : Int32) (hx : ¬ hdg x) : zMet G l yX3_hedge mX3_hedge [.ref (G.1 + 0), .int x, .int y] (zw h m) (fun r w => r = some (.int (-1)) ∧ w = zw h m) 0 0 := by
  refine zMet_of [(0, .ref (G.1 + 0)), (1, .int x), (2, .int y)] (by decide +kernel) rfl (Or.inl rfl) (Nat.le_of_ble_eq_true rfl) rfl ?_
  refine Z_iload_n 1 1 dX3_hedge_0 rfl rfl ?_
  refine Z_callS 4 [_] (zX3_isHedge _) dX3_hedge_1 rfl qX3_37 kX3_isHedge rfl rfl ⟨(Nat.le_of_ble_eq_true rfl), (Nat.le_of_ble_eq_true rfl)⟩ (Nat.le_of_ble_eq_true rfl) ⟨rfl, rfl⟩ ⟨(Nat.le_of_ble_eq_true rfl), (Nat.le_of_ble_eq_true rfl)⟩ (fun r9 w9 hp9 => ?_)
  obtain ⟨rfl, rfl⟩ := hp9
  refine Z_if_ne 7 9 dX3_hedge_4 rfl rfl (fun c4 => absurd c4 (fun q => q (bI_z hx))) (fun c4 => ?_)
  refine Z_iconst 8 (-1) dX3_hedge_7 rfl rfl ?_
  exact Z_iret dX3_hedge_8 rfl ⟨rfl, rfl⟩

set_option maxRecDepth 100000 in
set_option maxHeartbeats 4000000 in
theorem eX3_hedgeB {G : zG} {l : Launch} {h : Nat → Nat} {m : zM} (i : Nat) (hi : i < 8) (y : Int32) (hne : y.toInt < 0 ∨ 7 < y.toInt) : zMet G l yX3_hedge mX3_hedge [.ref (G.1 + 0), .int (nI i), .int y] (zw h m) (fun r w => r = some (.int (-1)) ∧ w = zw h m) 0 0 := by
  refine zMet_of [(0, .ref (G.1 + 0)), (1, .int (nI i)), (2, .int y)] (by decide +kernel) rfl (Or.inl rfl) (Nat.le_of_ble_eq_true rfl) rfl ?_
  refine Z_iload_n 1 1 dX3_hedge_0 rfl rfl ?_
  refine Z_callS 4 [_] (zX3_isHedge _) dX3_hedge_1 rfl qX3_37 kX3_isHedge rfl rfl ⟨(Nat.le_of_ble_eq_true rfl), (Nat.le_of_ble_eq_true rfl)⟩ (Nat.le_of_ble_eq_true rfl) ⟨rfl, rfl⟩ ⟨(Nat.le_of_ble_eq_true rfl), (Nat.le_of_ble_eq_true rfl)⟩ (fun r9 w9 hp9 => ?_)
  obtain ⟨rfl, rfl⟩ := hp9
  refine Z_if_ne 7 9 dX3_hedge_4 rfl rfl (fun c4 => ?_) (fun c4 => absurd (bI_ne (hdgN hi)) c4)
  refine Z_iload_n 10 2 dX3_hedge_9 rfl rfl ?_
  refine Z_tabOut 161 dX3_hedge_10 hne rfl ?_
  refine Z_iconst 162 (-1) dX3_hedge_161 rfl rfl ?_
  exact Z_iret dX3_hedge_162 rfl ⟨rfl, rfl⟩

set_option maxRecDepth 100000 in
set_option maxHeartbeats 4000000 in
theorem zX3_treaty0 {G : zG} {l : Launch} {h : Nat → Nat} {m : zM} (n : Nat) (hk : sOk m 1 n) (t : Nat) (ht : t < n) : zMet G l yX3_treaty mX3_treaty [.ref (G.1 + 0), .int (nI t), .int (nI 0)] (zw h m) (fun r w => r = some (.int (m 6 t)) ∧ w = zw h m) 0 0 := by
  refine zMet_of [(0, .ref (G.1 + 0)), (1, .int (nI t)), (2, .int (nI 0))] (by decide +kernel) rfl (Or.inl rfl) (Nat.le_of_ble_eq_true rfl) rfl ?_
  have hn := hk.2.1
  have ht14 : t < 14 := by omega
  refine Z_aload_n 1 0 dX3_treaty_0 rfl rfl ?_
  refine Z_iload_n 2 1 dX3_treaty_1 rfl rfl ?_
  refine Z_callV 5 [_] 3 (zX3_isTreaty n hk.1 _) dX3_treaty_2 rfl qX3_94 kX3_isTreaty rfl rfl (Nat.le_of_ble_eq_true rfl) rfl rfl ⟨(Nat.le_of_ble_eq_true rfl), (Nat.le_of_ble_eq_true rfl)⟩ (Nat.le_of_ble_eq_true rfl) ⟨rfl, rfl⟩ ⟨(Nat.le_of_ble_eq_true rfl), (Nat.le_of_ble_eq_true rfl)⟩ (fun r9 w9 hp9 => ?_)
  obtain ⟨rfl, rfl⟩ := hp9
  refine Z_if_ne 8 10 dX3_treaty_5 rfl rfl (fun c5 => ?_) (fun c5 => absurd (bI_ne (rngN ht (by omega))) c5)
  refine Z_iload_n 11 2 dX3_treaty_10 rfl rfl ?_
  refine Z_tabIn 56 (off := 45) dX3_treaty_11 (by decide) (by decide) (by decide) rfl ?_
  refine Z_aload_n 57 0 dX3_treaty_56 rfl rfl ?_
  refine Z_getR 60 dX3_treaty_57 rfl fX3_10 (Nat.le_of_ble_eq_true rfl) rfl rfl ?_
  refine Z_getR 63 dX3_treaty_60 rfl fX3_150 (Nat.le_of_ble_eq_true rfl) rfl rfl ?_
  refine Z_iload_n 64 1 dX3_treaty_63 rfl rfl ?_
  refine Z_ialn 65 dX3_treaty_64 rfl (Nat.le_of_ble_eq_true rfl) rfl (by first | assumption | omega) (by decide) ?_
  exact Z_iret dX3_treaty_65 rfl ⟨rfl, rfl⟩

set_option maxRecDepth 100000 in
set_option maxHeartbeats 4000000 in
theorem zX3_treaty1 {G : zG} {l : Launch} {h : Nat → Nat} {m : zM} (n : Nat) (hk : sOk m 1 n) (t : Nat) (ht : t < n) : zMet G l yX3_treaty mX3_treaty [.ref (G.1 + 0), .int (nI t), .int (nI 1)] (zw h m) (fun r w => r = some (.int (m 7 t)) ∧ w = zw h m) 0 0 := by
  refine zMet_of [(0, .ref (G.1 + 0)), (1, .int (nI t)), (2, .int (nI 1))] (by decide +kernel) rfl (Or.inl rfl) (Nat.le_of_ble_eq_true rfl) rfl ?_
  have hn := hk.2.1
  have ht14 : t < 14 := by omega
  refine Z_aload_n 1 0 dX3_treaty_0 rfl rfl ?_
  refine Z_iload_n 2 1 dX3_treaty_1 rfl rfl ?_
  refine Z_callV 5 [_] 3 (zX3_isTreaty n hk.1 _) dX3_treaty_2 rfl qX3_94 kX3_isTreaty rfl rfl (Nat.le_of_ble_eq_true rfl) rfl rfl ⟨(Nat.le_of_ble_eq_true rfl), (Nat.le_of_ble_eq_true rfl)⟩ (Nat.le_of_ble_eq_true rfl) ⟨rfl, rfl⟩ ⟨(Nat.le_of_ble_eq_true rfl), (Nat.le_of_ble_eq_true rfl)⟩ (fun r9 w9 hp9 => ?_)
  obtain ⟨rfl, rfl⟩ := hp9
  refine Z_if_ne 8 10 dX3_treaty_5 rfl rfl (fun c5 => ?_) (fun c5 => absurd (bI_ne (rngN ht (by omega))) c5)
  refine Z_iload_n 11 2 dX3_treaty_10 rfl rfl ?_
  refine Z_tabIn 66 (off := 55) dX3_treaty_11 (by decide) (by decide) (by decide) rfl ?_
  refine Z_aload_n 67 0 dX3_treaty_66 rfl rfl ?_
  refine Z_getR 70 dX3_treaty_67 rfl fX3_10 (Nat.le_of_ble_eq_true rfl) rfl rfl ?_
  refine Z_getR 73 dX3_treaty_70 rfl fX3_153 (Nat.le_of_ble_eq_true rfl) rfl rfl ?_
  refine Z_iload_n 74 1 dX3_treaty_73 rfl rfl ?_
  refine Z_ialn 75 dX3_treaty_74 rfl (Nat.le_of_ble_eq_true rfl) rfl (by first | assumption | omega) (by decide) ?_
  exact Z_iret dX3_treaty_75 rfl ⟨rfl, rfl⟩

set_option maxRecDepth 100000 in
set_option maxHeartbeats 4000000 in
theorem zX3_treaty2 {G : zG} {l : Launch} {h : Nat → Nat} {m : zM} (n : Nat) (hk : sOk m 1 n) (t : Nat) (ht : t < n) : zMet G l yX3_treaty mX3_treaty [.ref (G.1 + 0), .int (nI t), .int (nI 2)] (zw h m) (fun r w => r = some (.int (m 8 t + nI 100)) ∧ w = zw h m) 0 0 := by
  refine zMet_of [(0, .ref (G.1 + 0)), (1, .int (nI t)), (2, .int (nI 2))] (by decide +kernel) rfl (Or.inl rfl) (Nat.le_of_ble_eq_true rfl) rfl ?_
  have hn := hk.2.1
  have ht14 : t < 14 := by omega
  refine Z_aload_n 1 0 dX3_treaty_0 rfl rfl ?_
  refine Z_iload_n 2 1 dX3_treaty_1 rfl rfl ?_
  refine Z_callV 5 [_] 3 (zX3_isTreaty n hk.1 _) dX3_treaty_2 rfl qX3_94 kX3_isTreaty rfl rfl (Nat.le_of_ble_eq_true rfl) rfl rfl ⟨(Nat.le_of_ble_eq_true rfl), (Nat.le_of_ble_eq_true rfl)⟩ (Nat.le_of_ble_eq_true rfl) ⟨rfl, rfl⟩ ⟨(Nat.le_of_ble_eq_true rfl), (Nat.le_of_ble_eq_true rfl)⟩ (fun r9 w9 hp9 => ?_)
  obtain ⟨rfl, rfl⟩ := hp9
  refine Z_if_ne 8 10 dX3_treaty_5 rfl rfl (fun c5 => ?_) (fun c5 => absurd (bI_ne (rngN ht (by omega))) c5)
  refine Z_iload_n 11 2 dX3_treaty_10 rfl rfl ?_
  refine Z_tabIn 76 (off := 65) dX3_treaty_11 (by decide) (by decide) (by decide) rfl ?_
  refine Z_aload_n 77 0 dX3_treaty_76 rfl rfl ?_
  refine Z_getR 80 dX3_treaty_77 rfl fX3_10 (Nat.le_of_ble_eq_true rfl) rfl rfl ?_
  refine Z_getR 83 dX3_treaty_80 rfl fX3_156 (Nat.le_of_ble_eq_true rfl) rfl rfl ?_
  refine Z_iload_n 84 1 dX3_treaty_83 rfl rfl ?_
  refine Z_ialn 85 dX3_treaty_84 rfl (Nat.le_of_ble_eq_true rfl) rfl (by first | assumption | omega) (by decide) ?_
  refine Z_bipush 87 (nI 100) dX3_treaty_85 rfl rfl ?_
  refine Z_iadd 88 dX3_treaty_87 rfl ?_
  exact Z_iret dX3_treaty_88 rfl ⟨rfl, rfl⟩

set_option maxRecDepth 100000 in
set_option maxHeartbeats 4000000 in
theorem zX3_treaty3 {G : zG} {l : Launch} {h : Nat → Nat} {m : zM} (n : Nat) (hk : sOk m 1 n) (t : Nat) (ht : t < n) : zMet G l yX3_treaty mX3_treaty [.ref (G.1 + 0), .int (nI t), .int (nI 3)] (zw h m) (fun r w => r = some (.int (bI (sForce m 1 t))) ∧ w = zw h m) 0 0 := by
  refine zMet_of [(0, .ref (G.1 + 0)), (1, .int (nI t)), (2, .int (nI 3))] (by decide +kernel) rfl (Or.inl rfl) (Nat.le_of_ble_eq_true rfl) rfl ?_
  have hn := hk.2.1
  have ht14 : t < 14 := by omega
  refine Z_aload_n 1 0 dX3_treaty_0 rfl rfl ?_
  refine Z_iload_n 2 1 dX3_treaty_1 rfl rfl ?_
  refine Z_callV 5 [_] 3 (zX3_isTreaty n hk.1 _) dX3_treaty_2 rfl qX3_94 kX3_isTreaty rfl rfl (Nat.le_of_ble_eq_true rfl) rfl rfl ⟨(Nat.le_of_ble_eq_true rfl), (Nat.le_of_ble_eq_true rfl)⟩ (Nat.le_of_ble_eq_true rfl) ⟨rfl, rfl⟩ ⟨(Nat.le_of_ble_eq_true rfl), (Nat.le_of_ble_eq_true rfl)⟩ (fun r9 w9 hp9 => ?_)
  obtain ⟨rfl, rfl⟩ := hp9
  refine Z_if_ne 8 10 dX3_treaty_5 rfl rfl (fun c5 => ?_) (fun c5 => absurd (bI_ne (rngN ht (by omega))) c5)
  refine Z_iload_n 11 2 dX3_treaty_10 rfl rfl ?_
  refine Z_tabIn 89 (off := 78) dX3_treaty_11 (by decide) (by decide) (by decide) rfl ?_
  refine Z_aload_n 90 0 dX3_treaty_89 rfl rfl ?_
  refine Z_getR 93 dX3_treaty_90 rfl fX3_10 (Nat.le_of_ble_eq_true rfl) rfl rfl ?_
  refine Z_iload_n 94 1 dX3_treaty_93 rfl rfl ?_
  refine Z_callV 97 [_] 1 (zX1_isInForce 1 (Or.inl rfl) t ht14) dX3_treaty_94 rfl qX3_113 kX1_isInForce rfl rfl (Nat.le_of_ble_eq_true rfl) rfl rfl ⟨(Nat.le_of_ble_eq_true rfl), (Nat.le_of_ble_eq_true rfl)⟩ (Nat.le_of_ble_eq_true rfl) ⟨rfl, rfl⟩ ⟨(Nat.le_of_ble_eq_true rfl), (Nat.le_of_ble_eq_true rfl)⟩ (fun r9 w9 hp9 => ?_)
  obtain ⟨rfl, rfl⟩ := hp9
  refine Z_if_eq 100 104 dX3_treaty_97 rfl rfl (fun c97 => ?_) (fun c97 => ?_)
  · skip
    refine Z_iconst 105 (nI 0) dX3_treaty_104 rfl rfl ?_
    exact Z_iret dX3_treaty_105 rfl (by first | exact ⟨bI_if c97, rfl⟩ | exact ⟨bI_if0 c97, rfl⟩)
  · skip
    refine Z_iconst 101 (nI 1) dX3_treaty_100 rfl rfl ?_
    refine Z_goto 105 dX3_treaty_101 rfl ?_
    exact Z_iret dX3_treaty_105 rfl (by first | exact ⟨bI_if c97, rfl⟩ | exact ⟨bI_if0 c97, rfl⟩)

set_option maxRecDepth 100000 in
set_option maxHeartbeats 4000000 in
theorem zX3_treaty4 {G : zG} {l : Launch} {h : Nat → Nat} {m : zM} (n : Nat) (hk : sOk m 1 n) (t : Nat) (ht : t < n) : zMet G l yX3_treaty mX3_treaty [.ref (G.1 + 0), .int (nI t), .int (nI 4)] (zw h m) (fun r w => r = some (.int (bI (sBrk m 1 t (nI 0)))) ∧ w = zw h m) 0 0 := by
  refine zMet_of [(0, .ref (G.1 + 0)), (1, .int (nI t)), (2, .int (nI 4))] (by decide +kernel) rfl (Or.inl rfl) (Nat.le_of_ble_eq_true rfl) rfl ?_
  have hn := hk.2.1
  have ht14 : t < 14 := by omega
  refine Z_aload_n 1 0 dX3_treaty_0 rfl rfl ?_
  refine Z_iload_n 2 1 dX3_treaty_1 rfl rfl ?_
  refine Z_callV 5 [_] 3 (zX3_isTreaty n hk.1 _) dX3_treaty_2 rfl qX3_94 kX3_isTreaty rfl rfl (Nat.le_of_ble_eq_true rfl) rfl rfl ⟨(Nat.le_of_ble_eq_true rfl), (Nat.le_of_ble_eq_true rfl)⟩ (Nat.le_of_ble_eq_true rfl) ⟨rfl, rfl⟩ ⟨(Nat.le_of_ble_eq_true rfl), (Nat.le_of_ble_eq_true rfl)⟩ (fun r9 w9 hp9 => ?_)
  obtain ⟨rfl, rfl⟩ := hp9
  refine Z_if_ne 8 10 dX3_treaty_5 rfl rfl (fun c5 => ?_) (fun c5 => absurd (bI_ne (rngN ht (by omega))) c5)
  refine Z_iload_n 11 2 dX3_treaty_10 rfl rfl ?_
  refine Z_tabIn 106 (off := 95) dX3_treaty_11 (by decide) (by decide) (by decide) rfl ?_
  refine Z_aload_n 107 0 dX3_treaty_106 rfl rfl ?_
  refine Z_getR 110 dX3_treaty_107 rfl fX3_10 (Nat.le_of_ble_eq_true rfl) rfl rfl ?_
  refine Z_iload_n 111 1 dX3_treaty_110 rfl rfl ?_
  refine Z_callV 114 [_] 1 (zX1_isBroken 1 (Or.inl rfl) n hk t ht) dX3_treaty_111 rfl qX3_104 kX1_isBroken rfl rfl (Nat.le_of_ble_eq_true rfl) rfl rfl ⟨(Nat.le_of_ble_eq_true rfl), (Nat.le_of_ble_eq_true rfl)⟩ (Nat.le_of_ble_eq_true rfl) ⟨rfl, rfl⟩ ⟨(Nat.le_of_ble_eq_true rfl), (Nat.le_of_ble_eq_true rfl)⟩ (fun r9 w9 hp9 => ?_)
  obtain ⟨rfl, rfl⟩ := hp9
  refine Z_if_eq 117 121 dX3_treaty_114 rfl rfl (fun c114 => ?_) (fun c114 => ?_)
  · skip
    refine Z_iconst 122 (nI 0) dX3_treaty_121 rfl rfl ?_
    exact Z_iret dX3_treaty_122 rfl (by first | exact ⟨bI_if c114, rfl⟩ | exact ⟨bI_if0 c114, rfl⟩)
  · skip
    refine Z_iconst 118 (nI 1) dX3_treaty_117 rfl rfl ?_
    refine Z_goto 122 dX3_treaty_118 rfl ?_
    exact Z_iret dX3_treaty_122 rfl (by first | exact ⟨bI_if c114, rfl⟩ | exact ⟨bI_if0 c114, rfl⟩)

set_option maxRecDepth 100000 in
set_option maxHeartbeats 4000000 in
theorem zX3_treaty5 {G : zG} {l : Launch} {h : Nat → Nat} {m : zM} (n : Nat) (hk : sOk m 1 n) (t : Nat) (ht : t < n) : zMet G l yX3_treaty mX3_treaty [.ref (G.1 + 0), .int (nI t), .int (nI 5)] (zw h m) (fun r w => r = some (.int (slackA m 1 t (nI 0) + nI 1000)) ∧ w = zw h m) 0 0 := by
  refine zMet_of [(0, .ref (G.1 + 0)), (1, .int (nI t)), (2, .int (nI 5))] (by decide +kernel) rfl (Or.inl rfl) (Nat.le_of_ble_eq_true rfl) rfl ?_
  have hn := hk.2.1
  have ht14 : t < 14 := by omega
  refine Z_aload_n 1 0 dX3_treaty_0 rfl rfl ?_
  refine Z_iload_n 2 1 dX3_treaty_1 rfl rfl ?_
  refine Z_callV 5 [_] 3 (zX3_isTreaty n hk.1 _) dX3_treaty_2 rfl qX3_94 kX3_isTreaty rfl rfl (Nat.le_of_ble_eq_true rfl) rfl rfl ⟨(Nat.le_of_ble_eq_true rfl), (Nat.le_of_ble_eq_true rfl)⟩ (Nat.le_of_ble_eq_true rfl) ⟨rfl, rfl⟩ ⟨(Nat.le_of_ble_eq_true rfl), (Nat.le_of_ble_eq_true rfl)⟩ (fun r9 w9 hp9 => ?_)
  obtain ⟨rfl, rfl⟩ := hp9
  refine Z_if_ne 8 10 dX3_treaty_5 rfl rfl (fun c5 => ?_) (fun c5 => absurd (bI_ne (rngN ht (by omega))) c5)
  refine Z_iload_n 11 2 dX3_treaty_10 rfl rfl ?_
  refine Z_tabIn 123 (off := 112) dX3_treaty_11 (by decide) (by decide) (by decide) rfl ?_
  refine Z_aload_n 124 0 dX3_treaty_123 rfl rfl ?_
  refine Z_getR 127 dX3_treaty_124 rfl fX3_10 (Nat.le_of_ble_eq_true rfl) rfl rfl ?_
  refine Z_iload_n 128 1 dX3_treaty_127 rfl rfl ?_
  refine Z_iconst 129 (nI 0) dX3_treaty_128 rfl rfl ?_
  refine Z_callV 132 [_, _] 1 (zX1_slackAfter 1 (Or.inl rfl) n hk t ht (nI 0)) dX3_treaty_129 rfl qX3_159 kX1_slackAfter rfl rfl (Nat.le_of_ble_eq_true rfl) rfl rfl ⟨(Nat.le_of_ble_eq_true rfl), (Nat.le_of_ble_eq_true rfl)⟩ (Nat.le_of_ble_eq_true rfl) ⟨rfl, rfl⟩ ⟨(Nat.le_of_ble_eq_true rfl), (Nat.le_of_ble_eq_true rfl)⟩ (fun r9 w9 hp9 => ?_)
  obtain ⟨rfl, rfl⟩ := hp9
  refine Z_sipush 135 (nI 1000) dX3_treaty_132 rfl rfl ?_
  refine Z_iadd 136 dX3_treaty_135 rfl ?_
  exact Z_iret dX3_treaty_136 rfl ⟨rfl, rfl⟩

set_option maxRecDepth 100000 in
set_option maxHeartbeats 4000000 in
theorem zX3_treaty6 {G : zG} {l : Launch} {h : Nat → Nat} {m : zM} (n : Nat) (hk : sOk m 1 n) (t : Nat) (ht : t < n) : zMet G l yX3_treaty mX3_treaty [.ref (G.1 + 0), .int (nI t), .int (nI 6)] (zw h m) (fun r w => r = some (.int (m 9 t)) ∧ w = zw h m) 0 0 := by
  refine zMet_of [(0, .ref (G.1 + 0)), (1, .int (nI t)), (2, .int (nI 6))] (by decide +kernel) rfl (Or.inl rfl) (Nat.le_of_ble_eq_true rfl) rfl ?_
  have hn := hk.2.1
  have ht14 : t < 14 := by omega
  refine Z_aload_n 1 0 dX3_treaty_0 rfl rfl ?_
  refine Z_iload_n 2 1 dX3_treaty_1 rfl rfl ?_
  refine Z_callV 5 [_] 3 (zX3_isTreaty n hk.1 _) dX3_treaty_2 rfl qX3_94 kX3_isTreaty rfl rfl (Nat.le_of_ble_eq_true rfl) rfl rfl ⟨(Nat.le_of_ble_eq_true rfl), (Nat.le_of_ble_eq_true rfl)⟩ (Nat.le_of_ble_eq_true rfl) ⟨rfl, rfl⟩ ⟨(Nat.le_of_ble_eq_true rfl), (Nat.le_of_ble_eq_true rfl)⟩ (fun r9 w9 hp9 => ?_)
  obtain ⟨rfl, rfl⟩ := hp9
  refine Z_if_ne 8 10 dX3_treaty_5 rfl rfl (fun c5 => ?_) (fun c5 => absurd (bI_ne (rngN ht (by omega))) c5)
  refine Z_iload_n 11 2 dX3_treaty_10 rfl rfl ?_
  refine Z_tabIn 137 (off := 126) dX3_treaty_11 (by decide) (by decide) (by decide) rfl ?_
  refine Z_aload_n 138 0 dX3_treaty_137 rfl rfl ?_
  refine Z_getR 141 dX3_treaty_138 rfl fX3_10 (Nat.le_of_ble_eq_true rfl) rfl rfl ?_
  refine Z_getR 144 dX3_treaty_141 rfl fX3_110 (Nat.le_of_ble_eq_true rfl) rfl rfl ?_
  refine Z_iload_n 145 1 dX3_treaty_144 rfl rfl ?_
  refine Z_ialn 146 dX3_treaty_145 rfl (Nat.le_of_ble_eq_true rfl) rfl (by first | assumption | omega) (by decide) ?_
  exact Z_iret dX3_treaty_146 rfl ⟨rfl, rfl⟩

set_option maxRecDepth 100000 in
set_option maxHeartbeats 4000000 in
theorem eX3_treatyA {G : zG} {l : Launch} {h : Nat → Nat} {m : zM} (n : Nat) (hk : m 1 8 = nI n) (x y : Int32) (hx : ¬ (¬ x < 0 ∧ x < nI n)) : zMet G l yX3_treaty mX3_treaty [.ref (G.1 + 0), .int x, .int y] (zw h m) (fun r w => r = some (.int (-1)) ∧ w = zw h m) 0 0 := by
  refine zMet_of [(0, .ref (G.1 + 0)), (1, .int x), (2, .int y)] (by decide +kernel) rfl (Or.inl rfl) (Nat.le_of_ble_eq_true rfl) rfl ?_
  refine Z_aload_n 1 0 dX3_treaty_0 rfl rfl ?_
  refine Z_iload_n 2 1 dX3_treaty_1 rfl rfl ?_
  refine Z_callV 5 [_] 3 (zX3_isTreaty n hk _) dX3_treaty_2 rfl qX3_94 kX3_isTreaty rfl rfl (Nat.le_of_ble_eq_true rfl) rfl rfl ⟨(Nat.le_of_ble_eq_true rfl), (Nat.le_of_ble_eq_true rfl)⟩ (Nat.le_of_ble_eq_true rfl) ⟨rfl, rfl⟩ ⟨(Nat.le_of_ble_eq_true rfl), (Nat.le_of_ble_eq_true rfl)⟩ (fun r9 w9 hp9 => ?_)
  obtain ⟨rfl, rfl⟩ := hp9
  refine Z_if_ne 8 10 dX3_treaty_5 rfl rfl (fun c5 => absurd c5 (fun q => q (bI_z hx))) (fun c5 => ?_)
  refine Z_iconst 9 (-1) dX3_treaty_8 rfl rfl ?_
  exact Z_iret dX3_treaty_9 rfl ⟨rfl, rfl⟩

set_option maxRecDepth 100000 in
set_option maxHeartbeats 4000000 in
theorem eX3_treatyB {G : zG} {l : Launch} {h : Nat → Nat} {m : zM} (n : Nat) (hn : n ≤ 14) (hk : m 1 8 = nI n) (t : Nat) (ht : t < n) (y : Int32) (hne : y.toInt < 0 ∨ 7 < y.toInt) : zMet G l yX3_treaty mX3_treaty [.ref (G.1 + 0), .int (nI t), .int y] (zw h m) (fun r w => r = some (.int (-1)) ∧ w = zw h m) 0 0 := by
  refine zMet_of [(0, .ref (G.1 + 0)), (1, .int (nI t)), (2, .int y)] (by decide +kernel) rfl (Or.inl rfl) (Nat.le_of_ble_eq_true rfl) rfl ?_
  refine Z_aload_n 1 0 dX3_treaty_0 rfl rfl ?_
  refine Z_iload_n 2 1 dX3_treaty_1 rfl rfl ?_
  refine Z_callV 5 [_] 3 (zX3_isTreaty n hk _) dX3_treaty_2 rfl qX3_94 kX3_isTreaty rfl rfl (Nat.le_of_ble_eq_true rfl) rfl rfl ⟨(Nat.le_of_ble_eq_true rfl), (Nat.le_of_ble_eq_true rfl)⟩ (Nat.le_of_ble_eq_true rfl) ⟨rfl, rfl⟩ ⟨(Nat.le_of_ble_eq_true rfl), (Nat.le_of_ble_eq_true rfl)⟩ (fun r9 w9 hp9 => ?_)
  obtain ⟨rfl, rfl⟩ := hp9
  refine Z_if_ne 8 10 dX3_treaty_5 rfl rfl (fun c5 => ?_) (fun c5 => absurd (bI_ne (rngN ht (by omega))) c5)
  refine Z_iload_n 11 2 dX3_treaty_10 rfl rfl ?_
  refine Z_tabOut 161 dX3_treaty_11 hne rfl ?_
  refine Z_iconst 162 (-1) dX3_treaty_161 rfl rfl ?_
  exact Z_iret dX3_treaty_162 rfl ⟨rfl, rfl⟩

set_option maxRecDepth 100000 in
set_option maxHeartbeats 4000000 in
theorem eX3_ifDaysA {G : zG} {l : Launch} {h : Nat → Nat} {m : zM} (x y : Int32) (hne : ¬ (¬ x < nI 1 ∧ ¬ nI 30 < x)) : zMet G l yX3_ifDays mX3_ifDays [.ref (G.1 + 0), .int x, .int y] (zw h m) (fun r w => r = some (.int (-1)) ∧ w = zw h m) 0 0 := by
  refine zMet_of [(0, .ref (G.1 + 0)), (1, .int x), (2, .int y)] (by decide +kernel) rfl (Or.inl rfl) (Nat.le_of_ble_eq_true rfl) rfl ?_
  refine Z_iload_n 1 1 dX3_ifDays_0 rfl rfl ?_
  refine Z_iconst 2 (nI 1) dX3_ifDays_1 rfl rfl ?_
  refine Z_icmp_lt 5 11 dX3_ifDays_2 rfl rfl (fun c2 => ?_) (fun c2 => ?_)
  · skip
    refine Z_iconst 12 (-1) dX3_ifDays_11 rfl rfl ?_
    exact Z_iret dX3_ifDays_12 rfl ⟨rfl, rfl⟩
  · skip
    refine Z_iload_n 6 1 dX3_ifDays_5 rfl rfl ?_
    refine Z_bipush 8 (nI 30) dX3_ifDays_6 rfl rfl ?_
    refine Z_icmp_le 11 13 dX3_ifDays_8 rfl rfl (fun c8 => ?_) (fun c8 => ?_)
    · skip
      exact absurd ⟨c2, Int32.not_lt.mpr c8⟩ hne
    · skip
      refine Z_iconst 12 (-1) dX3_ifDays_11 rfl rfl ?_
      exact Z_iret dX3_ifDays_12 rfl ⟨rfl, rfl⟩

theorem look2 (x : Int32) (a b d : Int) (h0 : ¬ x = nI 0) (h1 : ¬ x = nI 1) : Op.lookupswitch.offset [(0, a), (1, b)] d x.toInt = d := by
  have e0 : ¬ x.toInt = 0 := fun q => h0 (i32_eq.mpr (q.trans (by decide)))
  have e1 : ¬ x.toInt = 1 := fun q => h1 (i32_eq.mpr (q.trans (by decide)))
  simp [Op.lookupswitch.offset, e0, e1, Ne.symm e0, Ne.symm e1]
set_option maxRecDepth 100000 in
set_option maxHeartbeats 4000000 in
theorem eX3_ifDaysB {G : zG} {l : Launch} {h : Nat → Nat} {m : zM} (x : Int32) (hx0 : ¬ x < nI 1) (hx1 : ¬ nI 30 < x) (y : Int32) (h0 : ¬ y = nI 0) (h1 : ¬ y = nI 1) : zMet G l yX3_ifDays mX3_ifDays [.ref (G.1 + 0), .int x, .int y] (zw h m) (fun r w => r = some (.int (-1)) ∧ w = zw h m) 0 0 := by
  refine zMet_of [(0, .ref (G.1 + 0)), (1, .int x), (2, .int y)] (by decide +kernel) rfl (Or.inl rfl) (Nat.le_of_ble_eq_true rfl) rfl ?_
  refine Z_iload_n 1 1 dX3_ifDays_0 rfl rfl ?_
  refine Z_iconst 2 (nI 1) dX3_ifDays_1 rfl rfl ?_
  refine Z_icmp_lt 5 11 dX3_ifDays_2 rfl rfl (fun c2 => absurd c2 (hx0)) (fun c2 => ?_)
  refine Z_iload_n 6 1 dX3_ifDays_5 rfl rfl ?_
  refine Z_bipush 8 (nI 30) dX3_ifDays_6 rfl rfl ?_
  refine Z_icmp_le 11 13 dX3_ifDays_8 rfl rfl (fun c8 => ?_) (fun c8 => absurd (Int32.not_lt.mp hx1) c8)
  refine Z_iload_n 14 2 dX3_ifDays_13 rfl rfl ?_
  refine Z_look 59 (off := 45) dX3_ifDays_14 (by decide) (look2 y _ _ _ h0 h1) rfl ?_
  refine Z_iconst 60 (-1) dX3_ifDays_59 rfl rfl ?_
  exact Z_iret dX3_ifDays_60 rfl ⟨rfl, rfl⟩

set_option maxRecDepth 100000 in
set_option maxHeartbeats 4000000 in
theorem zX3_ifDays0 {G : zG} {l : Launch} {h : Nat → Nat} {m : zM} (n : Nat) (hk : sOk m 1 n) (x : Int32) (hx0 : ¬ x < nI 1) (hx1 : ¬ nI 30 < x) : zMet G l yX3_ifDays mX3_ifDays [.ref (G.1 + 0), .int x, .int (nI 0)] (zw h m) (fun r w => r = some (.int (nI (cnt (fun j => decide (sBrk (m) 1 j (x))) n))) ∧ w = zw h m) 0 0 := by
  refine zMet_of [(0, .ref (G.1 + 0)), (1, .int x), (2, .int (nI 0))] (by decide +kernel) rfl (Or.inl rfl) (Nat.le_of_ble_eq_true rfl) rfl ?_
  refine Z_iload_n 1 1 dX3_ifDays_0 rfl rfl ?_
  refine Z_iconst 2 (nI 1) dX3_ifDays_1 rfl rfl ?_
  refine Z_icmp_lt 5 11 dX3_ifDays_2 rfl rfl (fun c2 => absurd c2 (hx0)) (fun c2 => ?_)
  refine Z_iload_n 6 1 dX3_ifDays_5 rfl rfl ?_
  refine Z_bipush 8 (nI 30) dX3_ifDays_6 rfl rfl ?_
  refine Z_icmp_le 11 13 dX3_ifDays_8 rfl rfl (fun c8 => ?_) (fun c8 => absurd (Int32.not_lt.mp hx1) c8)
  refine Z_iload_n 14 2 dX3_ifDays_13 rfl rfl ?_
  refine Z_look 40 (off := 26) dX3_ifDays_14 (by decide) (by decide) rfl ?_
  refine Z_aload_n 41 0 dX3_ifDays_40 rfl rfl ?_
  refine Z_getR 44 dX3_ifDays_41 rfl fX3_10 (Nat.le_of_ble_eq_true rfl) rfl rfl ?_
  refine Z_iconst 45 (-1) dX3_ifDays_44 rfl rfl ?_
  refine Z_iload_n 46 1 dX3_ifDays_45 rfl rfl ?_
  refine Z_callV 49 [_, _] 1 (zX1_countBroken 1 (Or.inl rfl) n hk (-1) x) dX3_ifDays_46 rfl qX3_83 kX1_countBroken rfl rfl (Nat.le_of_ble_eq_true rfl) rfl rfl ⟨(Nat.le_of_ble_eq_true rfl), (Nat.le_of_ble_eq_true rfl)⟩ (Nat.le_of_ble_eq_true rfl) ⟨rfl, rfl⟩ ⟨(Nat.le_of_ble_eq_true rfl), (Nat.le_of_ble_eq_true rfl)⟩ (fun r9 w9 hp9 => ?_)
  obtain ⟨rfl, rfl⟩ := hp9
  exact Z_iret dX3_ifDays_49 rfl ⟨congrArg (fun z => some (Value.int (nI z))) brk_0, rfl⟩

set_option maxRecDepth 100000 in
set_option maxHeartbeats 4000000 in
theorem zX3_ifDays1 {G : zG} {l : Launch} {h : Nat → Nat} {m : zM} (n : Nat) (hk : sOk m 1 n) (x : Int32) (hx0 : ¬ x < nI 1) (hx1 : ¬ nI 30 < x) : zMet G l yX3_ifDays mX3_ifDays [.ref (G.1 + 0), .int x, .int (nI 1)] (zw h m) (fun r w => r = some (.int (sumI (fun i => hAft m 1 i x) 8)) ∧ w = zw h m) 0 0 := by
  refine zMet_of [(0, .ref (G.1 + 0)), (1, .int x), (2, .int (nI 1))] (by decide +kernel) rfl (Or.inl rfl) (Nat.le_of_ble_eq_true rfl) rfl ?_
  refine Z_iload_n 1 1 dX3_ifDays_0 rfl rfl ?_
  refine Z_iconst 2 (nI 1) dX3_ifDays_1 rfl rfl ?_
  refine Z_icmp_lt 5 11 dX3_ifDays_2 rfl rfl (fun c2 => absurd c2 (hx0)) (fun c2 => ?_)
  refine Z_iload_n 6 1 dX3_ifDays_5 rfl rfl ?_
  refine Z_bipush 8 (nI 30) dX3_ifDays_6 rfl rfl ?_
  refine Z_icmp_le 11 13 dX3_ifDays_8 rfl rfl (fun c8 => ?_) (fun c8 => absurd (Int32.not_lt.mp hx1) c8)
  refine Z_iload_n 14 2 dX3_ifDays_13 rfl rfl ?_
  refine Z_look 50 (off := 36) dX3_ifDays_14 (by decide) (by decide) rfl ?_
  refine Z_aload_n 51 0 dX3_ifDays_50 rfl rfl ?_
  refine Z_getR 54 dX3_ifDays_51 rfl fX3_10 (Nat.le_of_ble_eq_true rfl) rfl rfl ?_
  refine Z_iload_n 55 1 dX3_ifDays_54 rfl rfl ?_
  refine Z_callV 58 [_] 1 (zX1_heightsAfter 1 (Or.inl rfl) x) dX3_ifDays_55 rfl qX3_203 kX1_heightsAfter rfl rfl (Nat.le_of_ble_eq_true rfl) rfl rfl ⟨(Nat.le_of_ble_eq_true rfl), (Nat.le_of_ble_eq_true rfl)⟩ (Nat.le_of_ble_eq_true rfl) ⟨rfl, rfl⟩ ⟨(Nat.le_of_ble_eq_true rfl), (Nat.le_of_ble_eq_true rfl)⟩ (fun r9 w9 hp9 => ?_)
  obtain ⟨rfl, rfl⟩ := hp9
  exact Z_iret dX3_ifDays_58 rfl ⟨rfl, rfl⟩

abbrev bcA (m : zM) (n k : Nat) : Nat := cnt (fun j => decide (sBrk m 1 j (nI k))) n
def brkIn (f : Nat → Nat) (r : Int32) : Prop := (∃ k, k ≤ 60 ∧ (∀ j, j < k → f j = 0) ∧ 0 < f k ∧ r = nI k) ∨ ((∀ j, j ≤ 60 → f j = 0) ∧ r = -4)
theorem brkIn_1 {f g : Nat → Nat} {r r' : Int32} (hfg : ∀ k, k ≤ 60 → (f k = 0 ↔ g k = 0)) (h1 : brkIn f r) (h2 : brkIn g r') : r = r' := by
  rcases h1 with ⟨k, a1, a2, a3, rfl⟩ | ⟨a2, rfl⟩
  · rcases h2 with ⟨k', b1, b2, b3, rfl⟩ | ⟨b2, rfl⟩
    · have e : k = k' := by
        rcases Nat.lt_trichotomy k k' with q | q | q
        · have := (hfg k a1).mpr (b2 k q)
          omega
        · exact q
        · have := (hfg k' b1).mp (a2 k' q)
          omega
      rw [e]
    · have := (hfg k a1).mpr (b2 k a1)
      omega
  · rcases h2 with ⟨k', b1, b2, b3, rfl⟩ | ⟨b2, rfl⟩
    · have := (hfg k' b1).mp (a2 k' b1)
      omega
    · rfl
set_option maxRecDepth 100000 in
set_option maxHeartbeats 4000000 in
theorem lX3_breaksIn {G : zG} {l : Launch} {h : Nat → Nat} {m : zM} (n : Nat) (hk : sOk m 1 n) : ∀ (t i : Nat), i + t = 61 → (∀ j, j < i → bcA m n j = 0) → Z G mX3_breaksIn (fun _ => True) (zN G (fun r w => (∃ v, r = some (.int v) ∧ brkIn (bcA m n) v) ∧ w = zw h m) 0 0) l 0 0 (zw h m) 2 [(1, .int (nI i)), (0, .ref (G.1 + 0))] [] := by
  intro t
  induction t with
  | zero =>
    intro i hi hy
    have e9 : i = 61 := by omega
    subst e9
    refine Z_iload_n 3 0 dX3_breaksIn_2 rfl rfl ?_
    refine Z_bipush 5 (nI 60) dX3_breaksIn_3 rfl rfl ?_
    refine Z_icmp_gt 8 28 dX3_breaksIn_5 rfl rfl (fun c5 => ?_) (fun c5 => absurd (nI_lt (show 60 < 61 by decide) (by decide)) c5)
    refine Z_bipush 30 (-4) dX3_breaksIn_28 rfl rfl ?_
    exact Z_iret dX3_breaksIn_30 rfl ⟨⟨_, rfl, Or.inr ⟨fun j hj => hy j (by omega), rfl⟩⟩, rfl⟩
  | succ t ih =>
    intro i hi hy
    have hlt : i < 61 := by omega
    refine Z_iload_n 3 0 dX3_breaksIn_2 rfl rfl ?_
    refine Z_bipush 5 (nI 60) dX3_breaksIn_3 rfl rfl ?_
    refine Z_icmp_gt 8 28 dX3_breaksIn_5 rfl rfl (fun c5 => absurd c5 (nI_nlt (show i ≤ 60 by omega) (by decide))) (fun c5 => ?_)
    refine Z_aload_n 9 1 dX3_breaksIn_8 rfl rfl ?_
    refine Z_getR 12 dX3_breaksIn_9 rfl fX3_10 (Nat.le_of_ble_eq_true rfl) rfl rfl ?_
    refine Z_iconst 13 (-1) dX3_breaksIn_12 rfl rfl ?_
    refine Z_iload_n 14 0 dX3_breaksIn_13 rfl rfl ?_
    refine Z_callV 17 [_, _] 1 (zX1_countBroken 1 (Or.inl rfl) n hk (-1) (nI i)) dX3_breaksIn_14 rfl qX3_83 kX1_countBroken rfl rfl (Nat.le_of_ble_eq_true rfl) rfl rfl ⟨(Nat.le_of_ble_eq_true rfl), (Nat.le_of_ble_eq_true rfl)⟩ (Nat.le_of_ble_eq_true rfl) ⟨rfl, rfl⟩ ⟨(Nat.le_of_ble_eq_true rfl), (Nat.le_of_ble_eq_true rfl)⟩ (fun r9 w9 hp9 => ?_)
    obtain ⟨rfl, rfl⟩ := hp9
    refine Z_top (v' := .int (nI (bcA m n i))) (congrArg (fun z => Value.int (nI z)) brk_0) ?_
    refine Z_if_le 20 22 dX3_breaksIn_17 rfl rfl (fun c17 => ?_) (fun c17 => ?_)
    · skip
      refine Z_iinc 25 [(1, _), (0, _)] 0 _ dX3_breaksIn_22 rfl (Nat.le_of_ble_eq_true rfl) rfl (nI_1 _) rfl ?_
      refine Z_goto 2 dX3_breaksIn_25 rfl ?_
      exact ih (i + 1) (by omega) (fun j hj => by
        rcases Nat.lt_succ_iff_lt_or_eq.mp hj with q | q
        · exact hy j q
        · subst q
          have := (nI_leI (a := bcA m n j) (b := 0) (by have := cnt_le (fun j9 => decide (sBrk m 1 j9 (nI j))) n; have := hk.2.1; unfold bcA; omega) (by decide)).mp c17
          omega)
    · skip
      refine Z_iload_n 21 0 dX3_breaksIn_20 rfl rfl ?_
      exact Z_iret dX3_breaksIn_21 rfl ⟨⟨_, rfl, Or.inl ⟨i, by omega, hy, by have := (nI_leI (a := bcA m n i) (b := 0) (by have := cnt_le (fun j => decide (sBrk m 1 j (nI i))) n; have := hk.2.1; unfold bcA; omega) (by decide)); have h0 : ¬ bcA m n i ≤ 0 := fun q => c17 (this.mpr q); omega, rfl⟩⟩, rfl⟩

set_option maxRecDepth 100000 in
set_option maxHeartbeats 4000000 in
theorem zX3_breaksIn {G : zG} {l : Launch} {h : Nat → Nat} {m : zM} (n : Nat) (hk : sOk m 1 n) : zMet G l yX3_breaksIn mX3_breaksIn [.ref (G.1 + 0)] (zw h m) (fun r w => (∃ v, r = some (.int v) ∧ brkIn (bcA m n) v) ∧ w = zw h m) 0 0 := by
  refine zMet_of [(0, .ref (G.1 + 0))] (by decide +kernel) rfl (Or.inl rfl) (Nat.le_of_ble_eq_true rfl) rfl ?_
  refine Z_iconst 1 (nI 0) dX3_breaksIn_0 rfl rfl ?_
  refine Z_istore_n 2 [(1, _), (0, _)] dX3_breaksIn_1 rfl (Nat.le_of_ble_eq_true rfl) rfl ?_
  exact lX3_breaksIn n hk 61 0 (by omega) (fun j hj => absurd hj (Nat.not_lt_zero j))

set_option maxRecDepth 100000 in
set_option maxHeartbeats 4000000 in
theorem eX3_undo {G : zG} {l : Launch} {h : Nat → Nat} {m : zM} (hst : m 0 5 = nI 0) : zMet G l yX3_undo mX3_undo [.ref (G.1 + 0)] (zw h m) (fun r w => r = some (.int (-2)) ∧ w = zw h m) 0 0 := by
  refine zMet_of [(0, .ref (G.1 + 0))] (by decide +kernel) rfl (Or.inl rfl) (Nat.le_of_ble_eq_true rfl) rfl ?_
  refine Z_aload_n 1 0 dX3_undo_0 rfl rfl ?_
  refine Z_getI 4 dX3_undo_1 rfl fX3_200 (Nat.le_of_ble_eq_true rfl) rfl rfl ?_
  refine Z_top (congrArg Value.int hst) ?_
  refine Z_if_gt 7 10 dX3_undo_4 rfl rfl (fun c4 => absurd c4 (by decide)) (fun c4 => ?_)
  refine Z_bipush 9 (-2) dX3_undo_7 rfl rfl ?_
  exact Z_iret dX3_undo_9 rfl ⟨rfl, rfl⟩

theorem cpM_1 {m : zM} {a k : Nat} (ha : IsH a) : cpM m 1 a 0 k = m 0 k := by
  unfold cpM
  rw [if_neg (by omega)]
set_option maxRecDepth 100000 in
set_option maxHeartbeats 4000000 in
theorem zX3_undo {G : zG} {l : Launch} {h : Nat → Nat} {m : zM} (s : Nat) (hs : s < 4) (hst : m 0 5 = nI (s + 1)) (hh : hOk h) : zMet G l yX3_undo mX3_undo [.ref (G.1 + 0)] (zw h m) (fun r w => r = some (.int (nI s)) ∧ w = zw h (cpM (up2 m 0 5 (nI s)) 1 (h s))) 0 0 := by
  refine zMet_of [(0, .ref (G.1 + 0))] (by decide +kernel) rfl (Or.inl rfl) (Nat.le_of_ble_eq_true rfl) rfl ?_
  have hH := hh.1 s hs
  refine Z_aload_n 1 0 dX3_undo_0 rfl rfl ?_
  refine Z_getI 4 dX3_undo_1 rfl fX3_200 (Nat.le_of_ble_eq_true rfl) rfl rfl ?_
  refine Z_top (congrArg Value.int hst) ?_
  refine Z_if_gt 7 10 dX3_undo_4 rfl rfl (fun c4 => ?_) (fun c4 => absurd (nI_lt (Nat.succ_pos s) (by omega)) c4)
  refine Z_aload_n 11 0 dX3_undo_10 rfl rfl ?_
  refine Z_dup 12 dX3_undo_11 rfl rfl ?_
  refine Z_getI 15 dX3_undo_12 rfl fX3_200 (Nat.le_of_ble_eq_true rfl) rfl rfl ?_
  refine Z_top (congrArg Value.int hst) ?_
  refine Z_iconst 16 (nI 1) dX3_undo_15 rfl rfl ?_
  refine Z_isub 17 dX3_undo_16 rfl ?_
  refine Z_top (v' := .int (nI s)) (congrArg Value.int (nI_pred s)) ?_
  refine Z_putI 20 .int dX3_undo_17 rfl fX3_200 ft_3_5 (Nat.le_of_ble_eq_true rfl) rfl rfl rfl rfl ?_
  refine Z_aload_n 21 0 dX3_undo_20 rfl rfl ?_
  refine Z_getR 24 dX3_undo_21 rfl fX3_10 (Nat.le_of_ble_eq_true rfl) rfl rfl ?_
  refine Z_aload_n 25 0 dX3_undo_24 rfl rfl ?_
  refine Z_getR 28 dX3_undo_25 rfl fX3_19 (Nat.le_of_ble_eq_true rfl) rfl rfl ?_
  refine Z_aload_n 29 0 dX3_undo_28 rfl rfl ?_
  refine Z_getI 32 dX3_undo_29 rfl fX3_200 (Nat.le_of_ble_eq_true rfl) rfl rfl ?_
  refine Z_top (v' := .int (nI s)) (congrArg Value.int (up2_eq _ _ _ _)) ?_
  refine Z_aaln (r := h s) 33 dX3_undo_32 rfl (Nat.le_of_ble_eq_true rfl) rfl hs (by decide) rfl ?_
  refine Z_callV 36 [_] 1 (zX1_copyFrom 1 (h s) (Or.inl rfl) hH.st (Or.inl (by have := hH; unfold IsH at this; omega))) dX3_undo_33 rfl qX3_210 kX1_copyFrom rfl rfl (Nat.le_of_ble_eq_true rfl) rfl rfl ⟨(Nat.le_of_ble_eq_true rfl), (Nat.le_of_ble_eq_true rfl)⟩ (Nat.le_of_ble_eq_true rfl) ⟨rfl, rfl⟩ ⟨(Nat.le_of_ble_eq_true rfl), (Nat.le_of_ble_eq_true rfl)⟩ (fun r9 w9 hp9 => ?_)
  obtain ⟨rfl, rfl⟩ := hp9
  refine Z_aload_n 37 0 dX3_undo_36 rfl rfl ?_
  refine Z_getI 40 dX3_undo_37 rfl fX3_200 (Nat.le_of_ble_eq_true rfl) rfl rfl ?_
  refine Z_top (v' := .int (nI s)) (congrArg Value.int ((cpM_1 hH).trans (up2_eq _ _ _ _))) ?_
  exact Z_iret dX3_undo_40 rfl ⟨rfl, rfl⟩

set_option maxRecDepth 100000 in
set_option maxHeartbeats 4000000 in
theorem zX3_save {G : zG} {l : Launch} {h : Nat → Nat} {m : zM}  : zMet G l yX3_save mX3_save [.ref (G.1 + 0)] (zw h m) (fun r w => r = some (.int (m 1 8)) ∧ w = zw h (up2 (cpM m 10 1) 0 6 (nI 1))) 0 0 := by
  refine zMet_of [(0, .ref (G.1 + 0))] (by decide +kernel) rfl (Or.inl rfl) (Nat.le_of_ble_eq_true rfl) rfl ?_
  refine Z_aload_n 1 0 dX3_save_0 rfl rfl ?_
  refine Z_getR 4 dX3_save_1 rfl fX3_16 (Nat.le_of_ble_eq_true rfl) rfl rfl ?_
  refine Z_aload_n 5 0 dX3_save_4 rfl rfl ?_
  refine Z_getR 8 dX3_save_5 rfl fX3_10 (Nat.le_of_ble_eq_true rfl) rfl rfl ?_
  refine Z_callV 11 [_] 1 (zX1_copyFrom 10 1 (Or.inr (Or.inl rfl)) (Or.inl rfl) (Or.inr (by decide))) dX3_save_8 rfl qX3_210 kX1_copyFrom rfl rfl (Nat.le_of_ble_eq_true rfl) rfl rfl ⟨(Nat.le_of_ble_eq_true rfl), (Nat.le_of_ble_eq_true rfl)⟩ (Nat.le_of_ble_eq_true rfl) ⟨rfl, rfl⟩ ⟨(Nat.le_of_ble_eq_true rfl), (Nat.le_of_ble_eq_true rfl)⟩ (fun r9 w9 hp9 => ?_)
  obtain ⟨rfl, rfl⟩ := hp9
  refine Z_aload_n 12 0 dX3_save_11 rfl rfl ?_
  refine Z_iconst 13 (nI 1) dX3_save_12 rfl rfl ?_
  refine Z_putI 16 .boolean dX3_save_13 rfl fX3_214 ft_3_6 (Nat.le_of_ble_eq_true rfl) rfl rfl rfl rfl ?_
  refine Z_aload_n 17 0 dX3_save_16 rfl rfl ?_
  refine Z_getR 20 dX3_save_17 rfl fX3_10 (Nat.le_of_ble_eq_true rfl) rfl rfl ?_
  refine Z_getI 23 dX3_save_20 rfl fX3_101 (Nat.le_of_ble_eq_true rfl) rfl rfl ?_
  refine Z_top (v' := .int (m 1 8)) (congrArg Value.int (by simp [up2, cpM])) ?_
  exact Z_iret dX3_save_23 rfl ⟨rfl, rfl⟩

set_option maxRecDepth 100000 in
set_option maxHeartbeats 4000000 in
theorem eX3_restore {G : zG} {l : Launch} {h : Nat → Nat} {m : zM} (hst : m 0 6 = nI 0) : zMet G l yX3_restore mX3_restore [.ref (G.1 + 0)] (zw h m) (fun r w => r = some (.int (-2)) ∧ w = zw h m) 0 0 := by
  refine zMet_of [(0, .ref (G.1 + 0))] (by decide +kernel) rfl (Or.inl rfl) (Nat.le_of_ble_eq_true rfl) rfl ?_
  refine Z_aload_n 1 0 dX3_restore_0 rfl rfl ?_
  refine Z_getI 4 dX3_restore_1 rfl fX3_214 (Nat.le_of_ble_eq_true rfl) rfl rfl ?_
  refine Z_top (congrArg Value.int hst) ?_
  refine Z_if_ne 7 10 dX3_restore_4 rfl rfl (fun c4 => absurd c4 (fun q => q rfl)) (fun c4 => ?_)
  refine Z_bipush 9 (-2) dX3_restore_7 rfl rfl ?_
  exact Z_iret dX3_restore_9 rfl ⟨rfl, rfl⟩

set_option maxRecDepth 100000 in
set_option maxHeartbeats 4000000 in
theorem zX3_restore {G : zG} {l : Launch} {h : Nat → Nat} {m : zM} (s : Nat) (hs : s ≤ 4) (hst : m 0 5 = nI s) (hh : hOk h) (hsv : m 0 6 = nI 1) : zMet G l yX3_restore mX3_restore [.ref (G.1 + 0)] (zw h m) (fun r w => r = some (.int (m 10 8)) ∧ w = zw (hRem h s) (cpM (mRem h m s) 1 10)) 0 0 := by
  refine zMet_of [(0, .ref (G.1 + 0))] (by decide +kernel) rfl (Or.inl rfl) (Nat.le_of_ble_eq_true rfl) rfl ?_
  refine Z_aload_n 1 0 dX3_restore_0 rfl rfl ?_
  refine Z_getI 4 dX3_restore_1 rfl fX3_214 (Nat.le_of_ble_eq_true rfl) rfl rfl ?_
  refine Z_top (congrArg Value.int hsv) ?_
  refine Z_if_ne 7 10 dX3_restore_4 rfl rfl (fun c4 => ?_) (fun c4 => absurd (by decide) c4)
  refine Z_aload_n 11 0 dX3_restore_10 rfl rfl ?_
  refine Z_callV 14 [] 3 (zX3_remember s hs hst hh) dX3_restore_11 rfl qX3_41 kX3_remember rfl rfl (Nat.le_of_ble_eq_true rfl) rfl rfl ⟨(Nat.le_of_ble_eq_true rfl), (Nat.le_of_ble_eq_true rfl)⟩ (Nat.le_of_ble_eq_true rfl) ⟨rfl, rfl⟩ ⟨(Nat.le_of_ble_eq_true rfl), (Nat.le_of_ble_eq_true rfl)⟩ (fun r9 w9 hp9 => ?_)
  obtain ⟨rfl, rfl⟩ := hp9
  refine Z_aload_n 15 0 dX3_restore_14 rfl rfl ?_
  refine Z_getR 18 dX3_restore_15 rfl fX3_10 (Nat.le_of_ble_eq_true rfl) rfl rfl ?_
  refine Z_aload_n 19 0 dX3_restore_18 rfl rfl ?_
  refine Z_getR 22 dX3_restore_19 rfl fX3_16 (Nat.le_of_ble_eq_true rfl) rfl rfl ?_
  refine Z_callV 25 [_] 1 (zX1_copyFrom 1 10 (Or.inl rfl) (Or.inr (Or.inl rfl)) (Or.inl (by decide))) dX3_restore_22 rfl qX3_210 kX1_copyFrom rfl rfl (Nat.le_of_ble_eq_true rfl) rfl rfl ⟨(Nat.le_of_ble_eq_true rfl), (Nat.le_of_ble_eq_true rfl)⟩ (Nat.le_of_ble_eq_true rfl) ⟨rfl, rfl⟩ ⟨(Nat.le_of_ble_eq_true rfl), (Nat.le_of_ble_eq_true rfl)⟩ (fun r9 w9 hp9 => ?_)
  obtain ⟨rfl, rfl⟩ := hp9
  refine Z_aload_n 26 0 dX3_restore_25 rfl rfl ?_
  refine Z_getR 29 dX3_restore_26 rfl fX3_10 (Nat.le_of_ble_eq_true rfl) rfl rfl ?_
  refine Z_getI 32 dX3_restore_29 rfl fX3_101 (Nat.le_of_ble_eq_true rfl) rfl rfl ?_
  refine Z_top (v' := .int (m 10 8)) (congrArg Value.int (by have := congrFun (mRem_o (m := m) (s := s) hh (q := 10) (by decide) (by decide)) 8; simp [cpM, this])) ?_
  exact Z_iret dX3_restore_32 rfl ⟨rfl, rfl⟩

def pcV (a b : Nat) : UInt64 := if a = 0 then FP.dconst1 else FP.ddiv (FP.i2d (nI a - nI b)) (FP.i2d (nI a))
theorem pc_num : ∀ a, a < 15 → ∀ b, b < 15 → ¬ a = 0 → (FP.ddiv (FP.i2d (nI a - nI b)) (FP.i2d (nI a))) &&& 0x7fffffffffffffff ≤ 0x7ff0000000000000 := by decide +kernel
set_option maxRecDepth 100000 in
set_option maxHeartbeats 4000000 in
theorem zX3_peace {G : zG} {l : Launch} {h : Nat → Nat} {m : zM} (n : Nat) (hk : sOk m 1 n) : zMet G l yX3_peace mX3_peace [.ref (G.1 + 0)] (zw h m) (fun r w => r = some (.double (pcV (cnt (fun j => decide (sForce m 1 j)) n) (cnt (fun j => decide (sBrk m 1 j (nI 0))) n))) ∧ w = zw h m) 0 0 := by
  refine zMet_of [(0, .ref (G.1 + 0))] (by decide +kernel) rfl (Or.inl rfl) (Nat.le_of_ble_eq_true rfl) rfl ?_
  have hn := hk.2.1
  have h1 := cnt_le (fun j => decide (sForce m 1 j)) n
  have h2 := cnt_le (fun j => decide (sBrk m 1 j (nI 0))) n
  refine Z_aload_n 1 0 dX3_peace_0 rfl rfl ?_
  refine Z_getR 4 dX3_peace_1 rfl fX3_10 (Nat.le_of_ble_eq_true rfl) rfl rfl ?_
  refine Z_iconst 5 (-1) dX3_peace_4 rfl rfl ?_
  refine Z_callV 8 [_] 1 (zX1_countInForce 1 (Or.inl rfl) n hk (-1)) dX3_peace_5 rfl qX3_144 kX1_countInForce rfl rfl (Nat.le_of_ble_eq_true rfl) rfl rfl ⟨(Nat.le_of_ble_eq_true rfl), (Nat.le_of_ble_eq_true rfl)⟩ (Nat.le_of_ble_eq_true rfl) ⟨rfl, rfl⟩ ⟨(Nat.le_of_ble_eq_true rfl), (Nat.le_of_ble_eq_true rfl)⟩ (fun r9 w9 hp9 => ?_)
  obtain ⟨rfl, rfl⟩ := hp9
  refine Z_top (v' := .int (nI (cnt (fun j => decide (sForce m 1 j)) n))) (congrArg (fun z => Value.int (nI z)) brk_0) ?_
  refine Z_istore_n 9 [(1, _), (0, _)] dX3_peace_8 rfl (Nat.le_of_ble_eq_true rfl) rfl ?_
  refine Z_iload_n 10 0 dX3_peace_9 rfl rfl ?_
  refine Z_if_gt 13 15 dX3_peace_10 rfl rfl (fun c10 => ?_) (fun c10 => ?_)
  · skip
    have e0 : ¬ cnt (fun j => decide (sForce m 1 j)) n = 0 := fun q => by
      rw [q] at c10
      exact absurd c10 (by decide)
    refine Z_iload_n 16 0 dX3_peace_15 rfl rfl ?_
    refine Z_aload_n 17 1 dX3_peace_16 rfl rfl ?_
    refine Z_getR 20 dX3_peace_17 rfl fX3_10 (Nat.le_of_ble_eq_true rfl) rfl rfl ?_
    refine Z_iconst 21 (-1) dX3_peace_20 rfl rfl ?_
    refine Z_iconst 22 (nI 0) dX3_peace_21 rfl rfl ?_
    refine Z_callV 25 [_, _] 1 (zX1_countBroken 1 (Or.inl rfl) n hk (-1) (nI 0)) dX3_peace_22 rfl qX3_83 kX1_countBroken rfl rfl (Nat.le_of_ble_eq_true rfl) rfl rfl ⟨(Nat.le_of_ble_eq_true rfl), (Nat.le_of_ble_eq_true rfl)⟩ (Nat.le_of_ble_eq_true rfl) ⟨rfl, rfl⟩ ⟨(Nat.le_of_ble_eq_true rfl), (Nat.le_of_ble_eq_true rfl)⟩ (fun r9 w9 hp9 => ?_)
    obtain ⟨rfl, rfl⟩ := hp9
    refine Z_top (v' := .int (nI (cnt (fun j => decide (sBrk m 1 j (nI 0))) n))) (congrArg (fun z => Value.int (nI z)) brk_0) ?_
    refine Z_isub 26 dX3_peace_25 rfl ?_
    refine Z_i2d 27 dX3_peace_26 rfl ?_
    refine Z_iload_n 28 0 dX3_peace_27 rfl rfl ?_
    refine Z_i2d 29 dX3_peace_28 rfl ?_
    refine Z_ddiv 30 dX3_peace_29 rfl (pc_num _ (by omega) _ (by omega) e0) ?_
    exact Z_dret dX3_peace_30 rfl ⟨by unfold pcV; rw [if_neg e0], rfl⟩
  · skip
    have e0 : cnt (fun j => decide (sForce m 1 j)) n = 0 := by
      rcases Nat.eq_zero_or_pos (cnt (fun j => decide (sForce m 1 j)) n) with q | q
      · exact q
      · exact absurd (nI_lt q (by omega)) c10
    refine Z_dconst1 14 dX3_peace_13 rfl ?_
    exact Z_dret dX3_peace_14 rfl ⟨by unfold pcV; rw [if_pos e0], rfl⟩
end
section
/-! the least clipping, bounds: relaxing edges; what is reached by them in any order is one thing -/
abbrev zK9 : Int := 100000
abbrev Ed : Type := Bool × Nat × Nat × Int
/-- an edge (on, u, v, d) asks that u is at most v and d, unless v is far -/
abbrev hit (y : Nat → Int) (e : Ed) : Prop := e.1 = true ∧ y e.2.2.1 < zK9 ∧ y e.2.2.1 + e.2.2.2 < y e.2.1
def rx1 (y : Nat → Int) (e : Ed) : Nat → Int := if hit y e then fun q => if q = e.2.1 then y e.2.2.1 + e.2.2.2 else y q else y
def rxs (y : Nat → Int) (e : Nat → Ed) : Nat → Nat → Int
  | 0 => y
  | t + 1 => rx1 (rxs y e t) (e t)
def chg (y : Nat → Int) (e : Nat → Ed) : Nat → Bool
  | 0 => false
  | t + 1 => chg y e t || decide (hit (rxs y e t) (e t))
def Fx1 (y : Nat → Int) (e : Ed) : Prop := e.1 = true → y e.2.2.1 < zK9 → y e.2.1 ≤ y e.2.2.1 + e.2.2.2
def Fx (y : Nat → Int) (e : Nat → Ed) (n : Nat) : Prop := ∀ t, t < n → Fx1 y (e t)
theorem rx1_le (y : Nat → Int) (e : Ed) (q : Nat) : rx1 y e q ≤ y q := by
  unfold rx1
  split
  · rename_i h
    obtain ⟨-, -, h⟩ := h
    show (if q = e.2.1 then _ else _) ≤ _
    split
    · rename_i hq
      rw [hq]
      omega
    · exact Int.le_refl _
  · exact Int.le_refl _
theorem rx1_u (y : Nat → Int) (e : Ed) (h1 : e.1 = true) (h2 : y e.2.2.1 < zK9) : rx1 y e e.2.1 ≤ y e.2.2.1 + e.2.2.2 := by
  unfold rx1
  by_cases h : hit y e
  · rw [if_pos h, if_pos rfl]
    exact Int.le_refl _
  · rw [if_neg h]
    have : ¬ (y e.2.2.1 + e.2.2.2 < y e.2.1) := fun q => h ⟨h1, h2, q⟩
    omega
theorem rxs_le (y : Nat → Int) (e : Nat → Ed) : ∀ t q, rxs y e t q ≤ y q
  | 0, q => Int.le_refl _
  | t + 1, q => Int.le_trans (rx1_le _ _ q) (rxs_le y e t q)
theorem rxs_mono (y : Nat → Int) (e : Nat → Ed) (q t : Nat) : ∀ k, rxs y e (t + k) q ≤ rxs y e t q
  | 0 => Int.le_refl _
  | k + 1 => Int.le_trans (rx1_le _ _ q) (rxs_mono y e q t k)
theorem rx1_low {y z : Nat → Int} {e : Ed} (hz : ∀ q, z q ≤ y q) (hf : Fx1 z e) (q : Nat) : z q ≤ rx1 y e q := by
  unfold rx1
  split
  · rename_i h
    obtain ⟨h1, h2, h3⟩ := h
    show _ ≤ (if q = e.2.1 then _ else _)
    split
    · rename_i hq
      have a1 := hz e.2.2.1
      have a2 := hf h1 (by omega)
      rw [hq]
      omega
    · exact hz q
  · exact hz q
theorem rxs_low {y z : Nat → Int} {e : Nat → Ed} (hz : ∀ q, z q ≤ y q) : ∀ n, Fx z e n → ∀ q, z q ≤ rxs y e n q
  | 0, _, q => hz q
  | n + 1, hf, q => rx1_low (rxs_low hz n (fun t ht => hf t (by omega))) (hf n (by omega)) q
theorem chg_f {y : Nat → Int} {e : Nat → Ed} : ∀ n, chg y e n = false → rxs y e n = y ∧ Fx y e n
  | 0, _ => ⟨rfl, fun t ht => absurd ht (Nat.not_lt_zero t)⟩
  | n + 1, h => by
    unfold chg at h
    rw [Bool.or_eq_false_iff, decide_eq_false_iff_not] at h
    obtain ⟨h1, h2⟩ := chg_f n h.1
    have h3 : rxs y e (n + 1) = y := by
      show rx1 (rxs y e n) (e n) = y
      unfold rx1
      rw [if_neg h.2, h1]
    refine ⟨h3, fun t ht => ?_⟩
    by_cases e1 : t < n
    · exact h2 t e1
    · have e2 : t = n := by omega
      subst e2
      intro g1 g2
      have g3 := h.2
      rw [h1] at g3
      have g4 : ¬ (y (e t).2.2.1 + (e t).2.2.2 < y (e t).2.1) := fun q => g3 ⟨g1, g2, q⟩
      omega
theorem Fx_chg {y : Nat → Int} {e : Nat → Ed} : ∀ n, Fx y e n → rxs y e n = y ∧ chg y e n = false
  | 0, _ => ⟨rfl, rfl⟩
  | n + 1, h => by
    obtain ⟨h1, h2⟩ := Fx_chg n (fun t ht => h t (by omega))
    have h3 : ¬ hit (rxs y e n) (e n) := by
      rw [h1]
      intro g
      have := h n (by omega) g.1 g.2.1
      have g3 := g.2.2
      omega
    refine ⟨?_, ?_⟩
    · show rx1 (rxs y e n) (e n) = y
      unfold rx1
      rw [if_neg h3, h1]
    · unfold chg
      rw [h2, decide_eq_false h3]
      rfl
/-- all edges at once -/
def jac (y : Nat → Int) (e : Nat → Ed) : Nat → Nat → Int
  | 0 => y
  | t + 1 => fun q => if (e t).1 = true ∧ q = (e t).2.1 ∧ y (e t).2.2.1 < zK9 ∧ y (e t).2.2.1 + (e t).2.2.2 < jac y e t q then y (e t).2.2.1 + (e t).2.2.2 else jac y e t q
theorem jac_s (y : Nat → Int) (e : Nat → Ed) (t q : Nat) : jac y e (t + 1) q = if (e t).1 = true ∧ q = (e t).2.1 ∧ y (e t).2.2.1 < zK9 ∧ y (e t).2.2.1 + (e t).2.2.2 < jac y e t q then y (e t).2.2.1 + (e t).2.2.2 else jac y e t q := rfl
theorem jac_le (y : Nat → Int) (e : Nat → Ed) : ∀ n q, jac y e n q ≤ y q
  | 0, q => Int.le_refl _
  | n + 1, q => by
    have := jac_le y e n q
    rw [jac_s]
    split <;> omega
theorem jac_e (y : Nat → Int) (e : Nat → Ed) : ∀ n t, t < n → (e t).1 = true → y (e t).2.2.1 < zK9 → jac y e n (e t).2.1 ≤ y (e t).2.2.1 + (e t).2.2.2
  | 0, t, h, _, _ => absurd h (Nat.not_lt_zero t)
  | n + 1, t, h, h1, h2 => by
    rw [jac_s]
    by_cases e1 : t < n
    · have := jac_e y e n t e1 h1 h2
      split
      · rename_i g
        omega
      · exact this
    · have e2 : t = n := by omega
      subst e2
      split
      · exact Int.le_refl _
      · rename_i g
        have : ¬ (y (e t).2.2.1 + (e t).2.2.2 < jac y e t (e t).2.1) := fun q => g ⟨h1, rfl, h2, q⟩
        omega
theorem jac_at (y : Nat → Int) (e : Nat → Ed) : ∀ n q, jac y e n q = y q ∨ ∃ t, t < n ∧ (e t).1 = true ∧ q = (e t).2.1 ∧ y (e t).2.2.1 < zK9 ∧ jac y e n q = y (e t).2.2.1 + (e t).2.2.2
  | 0, q => Or.inl rfl
  | n + 1, q => by
    rw [jac_s]
    split
    · rename_i g
      exact Or.inr ⟨n, by omega, g.1, g.2.1, g.2.2.1, rfl⟩
    · rcases jac_at y e n q with h | ⟨t, h1, h2, h3, h4, h5⟩
      · exact Or.inl h
      · exact Or.inr ⟨t, by omega, h2, h3, h4, h5⟩
theorem rxs_jac {y w : Nat → Int} {e : Nat → Ed} {n : Nat} (hw : ∀ q, y q ≤ w q) (q : Nat) : rxs y e n q ≤ jac w e n q := by
  rcases jac_at w e n q with h | ⟨t, h1, h2, h3, h4, h5⟩
  · rw [h]
    exact Int.le_trans (rxs_le y e n q) (hw q)
  · have a1 := rxs_le y e t (e t).2.2.1
    have a2 := hw (e t).2.2.1
    have a3 : rxs y e (t + 1) (e t).2.1 ≤ rxs y e t (e t).2.2.1 + (e t).2.2.2 := rx1_u _ _ h2 (by omega)
    obtain ⟨k, hk⟩ : ∃ k, n = t + 1 + k := ⟨n - (t + 1), by omega⟩
    have a4 := rxs_mono y e (e t).2.1 (t + 1) k
    rw [← hk] at a4
    rw [h5, h3]
    omega
def jk (y : Nat → Int) (e : Nat → Ed) (n : Nat) : Nat → Nat → Int
  | 0 => y
  | k + 1 => jac (jk y e n k) e n
def sk (y : Nat → Int) (e : Nat → Ed) (n : Nat) : Nat → Nat → Int
  | 0 => y
  | k + 1 => rxs (sk y e n k) e n
theorem jk_le (y : Nat → Int) (e : Nat → Ed) (n q i : Nat) : ∀ d, jk y e n (i + d) q ≤ jk y e n i q
  | 0 => Int.le_refl _
  | d + 1 => Int.le_trans (jac_le _ _ _ q) (jk_le y e n q i d)
theorem sk_le (y : Nat → Int) (e : Nat → Ed) (n q : Nat) : ∀ k, sk y e n k q ≤ y q
  | 0 => Int.le_refl _
  | k + 1 => Int.le_trans (rxs_le _ _ _ q) (sk_le y e n q k)
theorem sk_jk (y : Nat → Int) (e : Nat → Ed) (n : Nat) : ∀ k q, sk y e n k q ≤ jk y e n k q
  | 0, q => Int.le_refl _
  | k + 1, q => rxs_jac (sk_jk y e n k) q
theorem sk_low {y z : Nat → Int} {e : Nat → Ed} {n : Nat} (hz : ∀ q, z q ≤ y q) (hf : Fx z e n) : ∀ k q, z q ≤ sk y e n k q
  | 0, q => hz q
  | k + 1, q => rxs_low (sk_low hz hf k) n hf q
theorem pigeon : ∀ (n : Nat) (c : Nat → Nat), (∀ i, i ≤ n → c i < n) → ∃ i j, i < j ∧ j ≤ n ∧ c i = c j
  | 0, c, h => absurd (h 0 (Nat.le_refl 0)) (Nat.not_lt_zero _)
  | n + 1, c, h => by
    by_cases hx : ∃ i, i < n + 1 ∧ c i = c (n + 1)
    · obtain ⟨i, h1, h2⟩ := hx
      exact ⟨i, n + 1, h1, Nat.le_refl _, h2⟩
    · have hne : ∀ i, i < n + 1 → c i ≠ c (n + 1) := fun i hi he => hx ⟨i, hi, he⟩
      have hl := h (n + 1) (Nat.le_refl _)
      obtain ⟨i, j, h1, h2, h3⟩ := pigeon n (fun i => if c i < c (n + 1) then c i else c i - 1) (fun i hi => by
        have a1 := h i (by omega)
        have a2 := hne i (by omega)
        split <;> omega)
      refine ⟨i, j, h1, by omega, ?_⟩
      have b1 := hne i (by omega)
      have b2 := hne j (by omega)
      have h4 : (if c i < c (n + 1) then c i else c i - 1) = (if c j < c (n + 1) then c j else c j - 1) := h3
      split at h4 <;> split at h4 <;> omega
/-- edges between eight nodes, with a potential: no circle of them is below 0 -/
def Pot (e : Nat → Ed) (n : Nat) (f : Nat → Int) : Prop := ∀ t, t < n → (e t).1 = true → (e t).2.1 < 8 ∧ (e t).2.2.1 < 8 ∧ f (e t).2.1 ≤ f (e t).2.2.1 + (e t).2.2.2
theorem chain {y f : Nat → Int} {e : Nat → Ed} {n : Nat} (hp : Pot e n f) : ∀ (j x : Nat), x < 8 → (j = 0 ∨ ∃ k, j = k + 1 ∧ jk y e n j x < jk y e n k x) →
    ∃ c : Nat → Nat, c j = x ∧ (∀ i, i ≤ j → c i < 8) ∧ (∀ i, i < j → jk y e n (i + 1) (c (i + 1)) < jk y e n i (c (i + 1))) ∧ ∀ i, i < j → jk y e n i (c i) - f (c i) ≤ jk y e n (i + 1) (c (i + 1)) - f (c (i + 1))
  | 0, x, hx, _ => ⟨fun _ => x, rfl, fun _ _ => hx, fun i hi => absurd hi (Nat.not_lt_zero i), fun i hi => absurd hi (Nat.not_lt_zero i)⟩
  | j + 1, x, hx, h => by
    have hlt : jk y e n (j + 1) x < jk y e n j x := by
      rcases h with h | ⟨k, h1, h2⟩
      · omega
      · have : k = j := by omega
        subst this
        exact h2
    rcases jac_at (jk y e n j) e n x with h0 | ⟨t, h1, h2, h3, h4, h5⟩
    · exfalso
      have : jk y e n (j + 1) x = jk y e n j x := h0
      omega
    · have h5' : jk y e n (j + 1) x = jk y e n j (e t).2.2.1 + (e t).2.2.2 := h5
      obtain ⟨p1, p2, p3⟩ := hp t h1 h2
      obtain ⟨c, c1, c2, c3, c4⟩ := chain (y := y) hp j (e t).2.2.1 p2 (by
        cases j with
        | zero => exact Or.inl rfl
        | succ k =>
          right
          refine ⟨k, rfl, ?_⟩
          have h6 : ∀ k, jk y e n (k + 1) = jac (jk y e n k) e n := fun k => rfl
          by_cases g : jk y e n k (e t).2.2.1 < zK9
          · have g1 : jk y e n (k + 1) (e t).2.1 ≤ jk y e n k (e t).2.2.1 + (e t).2.2.2 := jac_e _ _ _ t h1 h2 g
            rw [← h3] at g1
            omega
          · have g1 : jk y e n (k + 1) (e t).2.2.1 < zK9 := h4
            omega)
      refine ⟨fun i => if i = j + 1 then x else c i, by simp, fun i hi => ?_, fun i hi => ?_, fun i hi => ?_⟩
      · show (if i = j + 1 then x else c i) < 8
        split
        · exact hx
        · exact c2 i (by omega)
      · show jk y e n (i + 1) (if i + 1 = j + 1 then x else c (i + 1)) < jk y e n i (if i + 1 = j + 1 then x else c (i + 1))
        by_cases g : i = j
        · subst g
          rw [if_pos rfl]
          exact hlt
        · rw [if_neg (by omega)]
          exact c3 i (by omega)
      · show jk y e n i (if i = j + 1 then x else c i) - f (if i = j + 1 then x else c i) ≤ jk y e n (i + 1) (if i + 1 = j + 1 then x else c (i + 1)) - f (if i + 1 = j + 1 then x else c (i + 1))
        rw [if_neg (by omega)]
        by_cases g : i = j
        · subst g
          rw [if_pos rfl, c1, h5']
          rw [h3]
          omega
        · rw [if_neg (by omega)]
          exact c4 i (by omega)
theorem jk_8 {y f : Nat → Int} {e : Nat → Ed} {n : Nat} (hp : Pot e n f) (x : Nat) : jk y e n 8 x = jk y e n 7 x := by
  have hle := jk_le y e n x 7 1
  by_cases h : jk y e n 8 x < jk y e n 7 x
  · exfalso
    have hx : x < 8 := by
      rcases jac_at (jk y e n 7) e n x with h0 | ⟨t, h1, h2, h3, -, -⟩
      · have : jk y e n 8 x = jk y e n 7 x := h0
        omega
      · rw [h3]
        exact (hp t h1 h2).1
    obtain ⟨c, c1, c2, c3, c4⟩ := chain (y := y) hp 8 x hx (Or.inr ⟨7, rfl, h⟩)
    obtain ⟨i, j, hij, hj, hc⟩ := pigeon 8 c c2
    obtain ⟨d, hd⟩ : ∃ d, j = i + 1 + d := ⟨j - (i + 1), by omega⟩
    have up : ∀ d, i + 1 + d ≤ 8 → jk y e n i (c i) - f (c i) ≤ jk y e n (i + 1 + d) (c (i + 1 + d)) - f (c (i + 1 + d)) := by
      intro d
      induction d with
      | zero => intro hd8; exact c4 i (by omega)
      | succ d ih =>
        intro hd8
        have a1 := ih (by omega)
        have a2 := c4 (i + 1 + d) (by omega)
        rw [show i + 1 + (d + 1) = i + 1 + d + 1 by omega]
        omega
    have a1 := up d (by omega)
    rw [← hd, ← hc] at a1
    have a2 := c3 (i + d) (by omega)
    rw [show i + d + 1 = j by omega, ← hc] at a2
    have a3 := jk_le y e n (c i) i d
    omega
  · have h2 : jk y e n 8 x ≤ jk y e n 7 x := hle
    omega
/-- behind seven rounds nothing becomes less -/
theorem sk_7 {y f : Nat → Int} {e : Nat → Ed} {n : Nat} (hp : Pot e n f) : Fx (sk y e n 7) e n := by
  have hF : Fx (jk y e n 7) e n := fun t ht h1 h2 => by
    rw [← jk_8 hp (e t).2.1]
    exact jac_e _ _ _ t ht h1 h2
  have e1 : sk y e n 7 = jk y e n 7 := by
    funext q
    have a1 := sk_jk y e n 7 q
    have a2 : jk y e n 7 q ≤ sk y e n 7 q := sk_low (y := y) (fun q => jk_le y e n q 0 7) hF 7 q
    omega
  rw [e1]
  exact hF
/-- the greatest that is not above y0 and keeps all edges -/
def Top (y0 : Nat → Int) (e : Nat → Ed) (n : Nat) (y : Nat → Int) : Prop := (∀ q, y q ≤ y0 q) ∧ Fx y e n ∧ ∀ z, (∀ q, z q ≤ y0 q) → Fx z e n → ∀ q, z q ≤ y q
theorem Top.one {y0 y y' : Nat → Int} {e : Nat → Ed} {n : Nat} (h : Top y0 e n y) (h' : Top y0 e n y') : y = y' := by
  funext q
  have a1 := h.2.2 y' h'.1 h'.2.1 q
  have a2 := h'.2.2 y h.1 h.2.1 q
  omega
theorem sk_top {y0 : Nat → Int} {e : Nat → Ed} {n k : Nat} (h : Fx (sk y0 e n k) e n) : Top y0 e n (sk y0 e n k) :=
  ⟨fun q => sk_le y0 e n q k, h, fun z hz hf q => sk_low hz hf k q⟩
/-- where a round changes nothing, later ones don't -/
theorem sk_stay {y0 : Nat → Int} {e : Nat → Ed} {n k : Nat} (h : Fx (sk y0 e n k) e n) : ∀ d, sk y0 e n (k + d) = sk y0 e n k
  | 0 => rfl
  | d + 1 => by
    show rxs (sk y0 e n (k + d)) e n = _
    rw [sk_stay h d]
    exact (Fx_chg n h).1
/-- far, or not farther than c -/
def Fin9 (c : Int) (y : Nat → Int) : Prop := ∀ q, q < 8 → y q = zK9 ∨ (-c ≤ y q ∧ y q ≤ c)
theorem Fin9.mono {c c' : Int} {y : Nat → Int} (h : Fin9 c y) (hc : c ≤ c') : Fin9 c' y := fun q hq => by
  have := h q hq
  omega
theorem rx1_fin {c : Int} {y : Nat → Int} {e : Ed} (hc : 0 ≤ c) (hy : Fin9 c y) (hv : e.1 = true → e.2.2.1 < 8 ∧ -60 ≤ e.2.2.2 ∧ e.2.2.2 ≤ 60) : Fin9 (c + 60) (rx1 y e) := by
  intro q hq
  unfold rx1
  split
  · rename_i h
    obtain ⟨h1, h2, h3⟩ := h
    show (if q = e.2.1 then _ else _) = _ ∨ (_ ≤ (if q = e.2.1 then _ else _) ∧ (if q = e.2.1 then _ else _) ≤ _)
    obtain ⟨a1, a2, a3⟩ := hv h1
    split
    · have := hy _ a1
      right
      omega
    · have := hy q hq
      omega
  · have := hy q hq
    omega
theorem rxs_fin {c : Int} {y : Nat → Int} {e : Nat → Ed} (hc : 0 ≤ c) (hy : Fin9 c y) : ∀ n : Nat, (∀ t, t < n → (e t).1 = true → (e t).2.2.1 < 8 ∧ -60 ≤ (e t).2.2.2 ∧ (e t).2.2.2 ≤ 60) → Fin9 (c + 60 * n) (rxs y e n)
  | 0, _ => by
    show Fin9 (c + 60 * ((0 : Nat) : Int)) y
    exact hy.mono (by omega)
  | n + 1, hv => by
    have h1 := rxs_fin hc hy n (fun t ht => hv t (by omega))
    have h2 := rx1_fin (e := e n) (by omega) h1 (hv n (by omega))
    have e1 : c + 60 * ((n + 1 : Nat) : Int) = c + 60 * (n : Int) + 60 := by
      rw [Int.natCast_add]
      omega
    rw [e1]
    exact h2
theorem sk_fin {c : Int} {y : Nat → Int} {e : Nat → Ed} {n : Nat} (hn : n ≤ 15) (hc : 0 ≤ c) (hy : Fin9 c y) (hv : ∀ t, t < n → (e t).1 = true → (e t).2.2.1 < 8 ∧ -60 ≤ (e t).2.2.2 ∧ (e t).2.2.2 ≤ 60) : ∀ k : Nat, Fin9 (c + 900 * k) (sk y e n k)
  | 0 => by
    show Fin9 (c + 900 * ((0 : Nat) : Int)) y
    exact hy.mono (by omega)
  | k + 1 => by
    have h1 := sk_fin hn hc hy hv k
    have h2 := rxs_fin (by omega) h1 n hv
    refine h2.mono ?_
    rw [Int.natCast_add]
    omega
end
section
/-! HedgeTreaties$Surveyor: levels, and bounds from one hedge on -/
theorem i32_add {x y : Int32} (h1 : -1000000000 ≤ x.toInt + y.toInt) (h2 : x.toInt + y.toInt ≤ 1000000000) : (x + y).toInt = x.toInt + y.toInt := by
  rw [Int32.toInt_add]
  exact Int.bmod_eq_of_le (by omega) (by omega)
theorem i32_sub {x y : Int32} (h1 : -1000000000 ≤ x.toInt - y.toInt) (h2 : x.toInt - y.toInt ≤ 1000000000) : (x - y).toInt = x.toInt - y.toInt := by
  rw [Int32.toInt_sub]
  exact Int.bmod_eq_of_le (by omega) (by omega)
/-- only the cell c has changed -/
def Fr (c : Nat) (m m' : zM) : Prop := ∀ q, q ≠ c → m' q = m q
theorem Fr.rf {c : Nat} {m : zM} : Fr c m m := fun _ _ => rfl
theorem Fr.trans {c : Nat} {m m1 m2 : zM} (h1 : Fr c m m1) (h2 : Fr c m1 m2) : Fr c m m2 := fun q hq => (h2 q hq).trans (h1 q hq)
theorem Fr.up {c k : Nat} {m m1 : zM} {v : Int32} (h : Fr c m m1) : Fr c m (up2 m1 c k v) := fun q hq => by
  rw [up2_na _ _ _ hq]
  exact h q hq
/-- the ints at the cell c are the levels y -/
def Lv (m : zM) (c : Nat) (y : Nat → Int) (b : Int) : Prop := ∀ q, q < 8 → (m c q).toInt = y q ∧ -b ≤ y q ∧ y q ≤ 99
theorem Lv.step {m : zM} {c f : Nat} {y : Nat → Int} {b : Int} (hb : b ≤ 50000) (h : Lv m c y b) {o : Nat} {d v : Int32} (hf : f < 8) (ho : o < 8) (hd : -60 ≤ d.toInt ∧ d.toInt ≤ 60) (hv : v = m c o + d) (hh : v < m c f) : Lv (up2 m c f v) c (rx1 y (true, f, o, d.toInt)) (b + 60) ∧ hit y (true, f, o, d.toInt) := by
  have a1 := h o ho
  have a2 := h f hf
  have e1 : v.toInt = y o + d.toInt := by
    rw [hv, i32_add (by omega) (by omega), a1.1]
  have e2 : y o + d.toInt < y f := by
    rw [i32_lt] at hh
    omega
  have hit9 : hit y (true, f, o, d.toInt) := ⟨rfl, by show y o < 100000; omega, e2⟩
  refine ⟨fun q hq => ?_, hit9⟩
  unfold rx1
  rw [if_pos hit9]
  by_cases g : q = f
  · subst g
    rw [up2_eq]
    simp only [if_true]
    omega
  · rw [up2_ne _ _ (fun z => g z.2)]
    have a3 := h q hq
    simp only [g, if_false]
    omega
theorem Lv.stay {m : zM} {c f : Nat} {y : Nat → Int} {b : Int} (hb : b ≤ 50000) (h : Lv m c y b) {o : Nat} {d v : Int32} (hf : f < 8) (ho : o < 8) (hd : -60 ≤ d.toInt ∧ d.toInt ≤ 60) (hv : v = m c o + d) (hh : ¬ v < m c f) : Lv m c (rx1 y (true, f, o, d.toInt)) (b + 60) ∧ ¬ hit y (true, f, o, d.toInt) := by
  have a1 := h o ho
  have a2 := h f hf
  have e1 : v.toInt = y o + d.toInt := by
    rw [hv, i32_add (by omega) (by omega), a1.1]
  have nh : ¬ hit y (true, f, o, d.toInt) := fun g => by
    have g3 : y o + d.toInt < y f := g.2.2
    exact hh (by rw [i32_lt]; omega)
  refine ⟨fun q hq => ?_, nh⟩
  unfold rx1
  rw [if_neg nh]
  have a3 := h q hq
  omega
theorem Lv.skip {m : zM} {c : Nat} {y : Nat → Int} {b : Int} (h : Lv m c y b) {e : Ed} (he : e.1 = false) : Lv m c (rx1 y e) (b + 60) ∧ ¬ hit y e := by
  have nh : ¬ hit y e := fun g => by
    have := g.1
    rw [he] at this
    exact absurd this (by decide)
  refine ⟨fun q hq => ?_, nh⟩
  unfold rx1
  rw [if_neg nh]
  have a3 := h q hq
  omega
theorem Lv.fr {m m' : zM} {c : Nat} {y : Nat → Int} {b : Int} (h : Lv m c y b) (e : m' c = m c) : Lv m' c y b := fun q hq => by rw [e]; exact h q hq
/-- the edges of the street at 1, for levels and for bounds -/
def eL (m : zM) (p : Nat → Bool) : Nat → Ed := fun t => (p t, sF m 1 t, sO m 1 t, (m 8 t).toInt)
def eB (m : zM) (p : Nat → Bool) : Nat → Ed := fun t => (p t, sO m 1 t, sF m 1 t, (m 8 t).toInt)
def dOk (m : zM) (n : Nat) : Prop := ∀ t, t < n → -30 ≤ (m 8 t).toInt ∧ (m 8 t).toInt ≤ 60
theorem chg_s (y : Nat → Int) (e : Nat → Ed) (t : Nat) : chg y e (t + 1) = (chg y e t || decide (hit (rxs y e t) (e t))) := rfl
theorem rxs_s (y : Nat → Int) (e : Nat → Ed) (t : Nat) : rxs y e (t + 1) = rx1 (rxs y e t) (e t) := rfl
set_option maxRecDepth 100000 in
set_option maxHeartbeats 4000000 in
theorem zX2_press {G : zG} {l : Launch} {h : Nat → Nat} {m : zM} (y : Nat → Int) (b : Int) (hb : b ≤ 50000) (hL : Lv m 57 y b) (f o : Nat) (hf : f < 8) (ho : o < 8) (d : Int32) (hd : -60 ≤ d.toInt ∧ d.toInt ≤ 60) : zMet G l yX2_press mX2_press [.ref (G.1 + 56), .int (nI f), .int (nI o), .int d] (zw h m) (fun r w => ∃ m', w = zw h m' ∧ r = some (.int (bI (hit y (true, f, o, d.toInt)))) ∧ Fr 57 m m' ∧ Lv m' 57 (rx1 y (true, f, o, d.toInt)) (b + 60)) 0 0 := by
  refine zMet_of [(0, .ref (G.1 + 56)), (1, .int (nI f)), (2, .int (nI o)), (3, .int d)] (by decide +kernel) rfl (Or.inl rfl) (Nat.le_of_ble_eq_true rfl) rfl ?_
  refine Z_aload_n 1 0 dX2_press_0 rfl rfl ?_
  refine Z_getR 4 dX2_press_1 rfl fX2_9 (Nat.le_of_ble_eq_true rfl) rfl rfl ?_
  refine Z_iload_n 5 2 dX2_press_4 rfl rfl ?_
  refine Z_ialn 6 dX2_press_5 rfl (Nat.le_of_ble_eq_true rfl) rfl (by first | assumption | omega) (by decide) ?_
  refine Z_iload_n 7 3 dX2_press_6 rfl rfl ?_
  refine Z_iadd 8 dX2_press_7 rfl ?_
  refine Z_istore 10 [(4, _), (0, _), (1, _), (2, _), (3, _)] dX2_press_8 rfl (Nat.le_of_ble_eq_true rfl) rfl ?_
  refine Z_aload_n 11 1 dX2_press_10 rfl rfl ?_
  refine Z_getR 14 dX2_press_11 rfl fX2_9 (Nat.le_of_ble_eq_true rfl) rfl rfl ?_
  refine Z_iload_n 15 2 dX2_press_14 rfl rfl ?_
  refine Z_ialn 16 dX2_press_15 rfl (Nat.le_of_ble_eq_true rfl) rfl (by first | assumption | omega) (by decide) ?_
  refine Z_iload 18 0 dX2_press_16 rfl rfl ?_
  refine Z_icmp_gt 21 23 dX2_press_18 rfl rfl (fun c18 => ?_) (fun c18 => ?_)
  · skip
    refine Z_aload_n 24 1 dX2_press_23 rfl rfl ?_
    refine Z_getR 27 dX2_press_24 rfl fX2_9 (Nat.le_of_ble_eq_true rfl) rfl rfl ?_
    refine Z_iload_n 28 2 dX2_press_27 rfl rfl ?_
    refine Z_iload 30 0 dX2_press_28 rfl rfl ?_
    refine Z_iasn 31 dX2_press_30 rfl (Nat.le_of_ble_eq_true rfl) rfl (by first | assumption | omega) (by decide) ?_
    refine Z_iconst 32 (nI 1) dX2_press_31 rfl rfl ?_
    exact Z_zret dX2_press_32 rfl (by first | exact Or.inl rfl | exact Or.inr rfl | exact bI_01) ⟨_, rfl, bRt (hL.step hb hf ho hd rfl c18).2, Fr.rf.up, (hL.step hb hf ho hd rfl c18).1⟩
  · skip
    refine Z_iconst 22 (nI 0) dX2_press_21 rfl rfl ?_
    exact Z_zret dX2_press_22 rfl (by first | exact Or.inl rfl | exact Or.inr rfl | exact bI_01) ⟨m, rfl, bRf (hL.stay hb hf ho hd rfl c18).2, Fr.rf, (hL.stay hb hf ho hd rfl c18).1⟩

set_option maxRecDepth 100000 in
set_option maxHeartbeats 4000000 in
theorem lX2_areLevelsAboveGround {G : zG} {l : Launch} {h : Nat → Nat} {m : zM}  : ∀ (t i : Nat), i + t = 8 → (∀ q, q < i → ¬ m 57 q < 0) → Z G mX2_areLevelsAboveGround (fun _ => True) (zN G (fun r w => w = zw h m ∧ ((r = some (.int (nI 1)) ∧ ∀ q, q < 8 → ¬ m 57 q < 0) ∨ (r = some (.int (nI 0)) ∧ ∃ q, q < 8 ∧ m 57 q < 0))) 0 0) l 0 0 (zw h m) 2 [(1, .int (nI i)), (0, .ref (G.1 + 56))] [] := by
  intro t
  induction t with
  | zero =>
    intro i hi hy
    have e9 : i = 8 := by omega
    subst e9
    refine Z_iload_n 3 0 dX2_areLevelsAboveGround_2 rfl rfl ?_
    refine Z_bipush 5 (nI 8) dX2_areLevelsAboveGround_3 rfl rfl ?_
    refine Z_icmp_ge 8 25 dX2_areLevelsAboveGround_5 rfl rfl (fun c5 => ?_) (fun c5 => absurd (nI_le (Nat.le_refl _) (by omega)) c5)
    refine Z_iconst 26 (nI 1) dX2_areLevelsAboveGround_25 rfl rfl ?_
    exact Z_zret dX2_areLevelsAboveGround_26 rfl (by first | exact Or.inl rfl | exact Or.inr rfl | exact bI_01) ⟨rfl, Or.inl ⟨rfl, hy⟩⟩
  | succ t ih =>
    intro i hi hy
    have hlt : i < 8 := by omega
    refine Z_iload_n 3 0 dX2_areLevelsAboveGround_2 rfl rfl ?_
    refine Z_bipush 5 (nI 8) dX2_areLevelsAboveGround_3 rfl rfl ?_
    refine Z_icmp_ge 8 25 dX2_areLevelsAboveGround_5 rfl rfl (fun c5 => absurd c5 (nI_ge hlt (by omega))) (fun c5 => ?_)
    refine Z_aload_n 9 1 dX2_areLevelsAboveGround_8 rfl rfl ?_
    refine Z_getR 12 dX2_areLevelsAboveGround_9 rfl fX2_9 (Nat.le_of_ble_eq_true rfl) rfl rfl ?_
    refine Z_iload_n 13 0 dX2_areLevelsAboveGround_12 rfl rfl ?_
    refine Z_ialn 14 dX2_areLevelsAboveGround_13 rfl (Nat.le_of_ble_eq_true rfl) rfl (by first | assumption | omega) (by decide) ?_
    refine Z_if_ge 17 19 dX2_areLevelsAboveGround_14 rfl rfl (fun c14 => ?_) (fun c14 => ?_)
    · skip
      refine Z_iinc 22 [(1, _), (0, _)] 0 _ dX2_areLevelsAboveGround_19 rfl (Nat.le_of_ble_eq_true rfl) rfl (nI_1 _) rfl ?_
      refine Z_goto 2 dX2_areLevelsAboveGround_22 rfl ?_
      exact ih (i + 1) (by omega) (fun q hq => by
        rcases Nat.lt_succ_iff_lt_or_eq.mp hq with g | g
        · exact hy q g
        · rw [g]
          exact Int32.not_lt.mpr c14)
    · skip
      refine Z_iconst 18 (nI 0) dX2_areLevelsAboveGround_17 rfl rfl ?_
      exact Z_zret dX2_areLevelsAboveGround_18 rfl (by first | exact Or.inl rfl | exact Or.inr rfl | exact bI_01) ⟨rfl, Or.inr ⟨rfl, i, hlt, Int32.not_le.mp c14⟩⟩

set_option maxRecDepth 100000 in
set_option maxHeartbeats 4000000 in
theorem zX2_areLevelsAboveGround {G : zG} {l : Launch} {h : Nat → Nat} {m : zM}  : zMet G l yX2_areLevelsAboveGround mX2_areLevelsAboveGround [.ref (G.1 + 56)] (zw h m) (fun r w => w = zw h m ∧ ((r = some (.int (nI 1)) ∧ ∀ q, q < 8 → ¬ m 57 q < 0) ∨ (r = some (.int (nI 0)) ∧ ∃ q, q < 8 ∧ m 57 q < 0))) 0 0 := by
  refine zMet_of [(0, .ref (G.1 + 56))] (by decide +kernel) rfl (Or.inl rfl) (Nat.le_of_ble_eq_true rfl) rfl ?_
  refine Z_iconst 1 (nI 0) dX2_areLevelsAboveGround_0 rfl rfl ?_
  refine Z_istore_n 2 [(1, _), (0, _)] dX2_areLevelsAboveGround_1 rfl (Nat.le_of_ble_eq_true rfl) rfl ?_
  exact lX2_areLevelsAboveGround 8 0 (by omega) (fun q hq => absurd hq (Nat.not_lt_zero q))

set_option maxRecDepth 100000 in
set_option maxHeartbeats 4000000 in
theorem lX2_pressByTreaties {G : zG} {l : Launch} {h : Nat → Nat} {m : zM} (n : Nat) (hk : sOk m 1 n) (hd : dOk m n) (y : Nat → Int) (b : Int) (hb : b ≤ 20000) (fl : Nat) (hfl : fl ≤ 1) : ∀ (t i : Nat), i + t = n → ∀ mm : zM, Fr 57 m mm → Lv mm 57 (rxs y (eL m (fun t => decide (fl = 1 ∨ sForce m 1 t))) i) (b + 60 * i) → Z G mX2_pressByTreaties (fun _ => True) (zN G (fun r w => ∃ m', w = zw h m' ∧ r = some (.int (bI (chg y (eL m (fun t => decide (fl = 1 ∨ sForce m 1 t))) n = true))) ∧ Fr 57 m m' ∧ Lv m' 57 (rxs y (eL m (fun t => decide (fl = 1 ∨ sForce m 1 t))) n) (b + 60 * n)) 0 0) l 0 0 (zw h mm) 5 [(4, .int (nI i)), (3, .int (bI (chg y (eL m (fun t => decide (fl = 1 ∨ sForce m 1 t))) i = true))), (0, .ref (G.1 + 56)), (1, .ref (G.1 + 1)), (2, .int (nI fl))] [] := by
  intro t
  induction t with
  | zero =>
    intro i hi mm hF hL
    have e9 : i = n := by omega
    subst e9
    have hn := hk.2.1
    refine Z_iload 7 0 dX2_pressByTreaties_5 rfl rfl ?_
    refine Z_aload_n 8 3 dX2_pressByTreaties_7 rfl rfl ?_
    refine Z_getI 11 dX2_pressByTreaties_8 rfl fX2_28 (Nat.le_of_ble_eq_true rfl) rfl rfl ?_
    refine Z_top (congrArg Value.int ((congrFun (hF 1 (by decide)) 8).trans hk.1)) ?_
    refine Z_icmp_ge 14 66 dX2_pressByTreaties_11 rfl rfl (fun c11 => ?_) (fun c11 => absurd (nI_le (Nat.le_refl _) (by omega)) c11)
    refine Z_iload_n 67 1 dX2_pressByTreaties_66 rfl rfl ?_
    exact Z_zret dX2_pressByTreaties_67 rfl (by first | exact Or.inl rfl | exact Or.inr rfl | exact bI_01) ⟨mm, rfl, rfl, hF, hL⟩
  | succ t ih =>
    intro i hi mm hF hL
    have hlt : i < n := by omega
    have hn := hk.2.1
    have hc9 : b + 60 * ((i + 1 : Nat) : Int) = b + 60 * (i : Int) + 60 := by rw [Int.natCast_add]; omega
    have K60 : ∀ (m2 : zM) (v : Int32), Fr 57 m m2 → Lv m2 57 (rxs y (eL m (fun t => decide (fl = 1 ∨ sForce m 1 t))) (i + 1)) (b + 60 * ((i + 1 : Nat) : Int)) → v = bI (chg y (eL m (fun t => decide (fl = 1 ∨ sForce m 1 t))) (i + 1) = true) → Z G mX2_pressByTreaties (fun _ => True) (zN G (fun r w => ∃ m', w = zw h m' ∧ r = some (.int (bI (chg y (eL m (fun t => decide (fl = 1 ∨ sForce m 1 t))) n = true))) ∧ Fr 57 m m' ∧ Lv m' 57 (rxs y (eL m (fun t => decide (fl = 1 ∨ sForce m 1 t))) n) (b + 60 * n)) 0 0) l 0 0 (zw h m2) 60 [(4, .int (nI i)), (3, .int v), (0, .ref (G.1 + 56)), (1, .ref (G.1 + 1)), (2, .int (nI fl))] [] := by
      intro m2 v hF2 hL2 hv
      refine Z_iinc 63 [(4, _), (3, _), (0, _), (1, _), (2, _)] 0 _ dX2_pressByTreaties_60 rfl (Nat.le_of_ble_eq_true rfl) rfl (nI_1 _) rfl ?_
      refine Z_goto 5 dX2_pressByTreaties_63 rfl ?_
      subst hv
      exact ih (i + 1) (by omega) m2 hF2 hL2
    have K30 : ∀ (_ : Unit), (fl = 1 ∨ sForce m 1 i) → Z G mX2_pressByTreaties (fun _ => True) (zN G (fun r w => ∃ m', w = zw h m' ∧ r = some (.int (bI (chg y (eL m (fun t => decide (fl = 1 ∨ sForce m 1 t))) n = true))) ∧ Fr 57 m m' ∧ Lv m' 57 (rxs y (eL m (fun t => decide (fl = 1 ∨ sForce m 1 t))) n) (b + 60 * n)) 0 0) l 0 0 (zw h mm) 30 [(4, .int (nI i)), (3, .int (bI (chg y (eL m (fun t => decide (fl = 1 ∨ sForce m 1 t))) i = true))), (0, .ref (G.1 + 56)), (1, .ref (G.1 + 1)), (2, .int (nI fl))] [] := by
      intro _ hp
      refine Z_aload_n 31 2 dX2_pressByTreaties_30 rfl rfl ?_
      refine Z_aload_n 32 3 dX2_pressByTreaties_31 rfl rfl ?_
      refine Z_getR 35 dX2_pressByTreaties_32 rfl fX2_34 (Nat.le_of_ble_eq_true rfl) rfl rfl ?_
      refine Z_iload 37 0 dX2_pressByTreaties_35 rfl rfl ?_
      refine Z_ialn 38 dX2_pressByTreaties_37 rfl (Nat.le_of_ble_eq_true rfl) rfl (by omega) (by decide) ?_
      refine Z_top (v' := .int (nI (sF m 1 i))) (congrArg Value.int ((congrFun (hF 6 (by decide)) i).trans (hk.2.2 i hlt).1.1)) ?_
      refine Z_aload_n 39 3 dX2_pressByTreaties_38 rfl rfl ?_
      refine Z_getR 42 dX2_pressByTreaties_39 rfl fX2_41 (Nat.le_of_ble_eq_true rfl) rfl rfl ?_
      refine Z_iload 44 0 dX2_pressByTreaties_42 rfl rfl ?_
      refine Z_ialn 45 dX2_pressByTreaties_44 rfl (Nat.le_of_ble_eq_true rfl) rfl (by omega) (by decide) ?_
      refine Z_top (v' := .int (nI (sO m 1 i))) (congrArg Value.int ((congrFun (hF 7 (by decide)) i).trans (hk.2.2 i hlt).2.1)) ?_
      refine Z_aload_n 46 3 dX2_pressByTreaties_45 rfl rfl ?_
      refine Z_getR 49 dX2_pressByTreaties_46 rfl fX2_44 (Nat.le_of_ble_eq_true rfl) rfl rfl ?_
      refine Z_iload 51 0 dX2_pressByTreaties_49 rfl rfl ?_
      refine Z_ialn 52 dX2_pressByTreaties_51 rfl (Nat.le_of_ble_eq_true rfl) rfl (by omega) (by decide) ?_
      refine Z_top (v' := .int (m 8 i)) (congrArg Value.int (congrFun (hF 8 (by decide)) i)) ?_
      refine Z_callV 55 [_, _, _] 2 (zX2_press (m := mm) (rxs y (eL m (fun t => decide (fl = 1 ∨ sForce m 1 t))) i) (b + 60 * i) (by omega) hL (sF m 1 i) (sO m 1 i) (hk.2.2 i hlt).1.2 (hk.2.2 i hlt).2.2 (m 8 i) (by have := hd i hlt; omega)) dX2_pressByTreaties_52 rfl qX2_75 kX2_press rfl rfl (Nat.le_of_ble_eq_true rfl) rfl rfl ⟨(Nat.le_of_ble_eq_true rfl), (Nat.le_of_ble_eq_true rfl)⟩ (Nat.le_of_ble_eq_true rfl) ⟨rfl, rfl⟩ ⟨(Nat.le_of_ble_eq_true rfl), (Nat.le_of_ble_eq_true rfl)⟩ (fun r9 w9 hp9 => ?_)
      obtain ⟨m2, rfl, hr9, hF2, hL2⟩ := hp9
      cases hr9
      have he : (eL m (fun t => decide (fl = 1 ∨ sForce m 1 t))) i = (true, sF m 1 i, sO m 1 i, (m 8 i).toInt) := by
        show (decide _, _) = _
        rw [decide_eq_true hp]
      refine Z_if_eq 58 60 dX2_pressByTreaties_55 rfl rfl (fun c55 => ?_) (fun c55 => ?_)
      · skip
        refine K60 _ _ (hF.trans hF2) (by rw [rxs_s, he, hc9]; exact hL2) (by rw [chg_s, he, decide_eq_false (bI_0 c55), Bool.or_false])
      · skip
        refine Z_iconst 59 (nI 1) dX2_pressByTreaties_58 rfl rfl ?_
        refine Z_istore_n 60 [(3, _), (4, _), (0, _), (1, _), (2, _)] dX2_pressByTreaties_59 rfl (Nat.le_of_ble_eq_true rfl) rfl ?_
        refine Z_lv [1, 0, 2, 3, 4] rfl ?_
        refine K60 _ _ (hF.trans hF2) (by rw [rxs_s, he, hc9]; exact hL2) (by rw [chg_s, he, decide_eq_true (bI_1 c55), Bool.or_true]; rfl)
    refine Z_iload 7 0 dX2_pressByTreaties_5 rfl rfl ?_
    refine Z_aload_n 8 3 dX2_pressByTreaties_7 rfl rfl ?_
    refine Z_getI 11 dX2_pressByTreaties_8 rfl fX2_28 (Nat.le_of_ble_eq_true rfl) rfl rfl ?_
    refine Z_top (congrArg Value.int ((congrFun (hF 1 (by decide)) 8).trans hk.1)) ?_
    refine Z_icmp_ge 14 66 dX2_pressByTreaties_11 rfl rfl (fun c11 => absurd c11 (nI_ge hlt (by omega))) (fun c11 => ?_)
    refine Z_iload_n 15 4 dX2_pressByTreaties_14 rfl rfl ?_
    refine Z_if_ne 18 30 dX2_pressByTreaties_15 rfl rfl (fun c15 => ?_) (fun c15 => ?_)
    · skip
      exact K30 () (Or.inl (by
        rcases (show fl = 0 ∨ fl = 1 by omega) with q | q
        · subst q
          exact absurd rfl c15
        · exact q))
    · skip
      refine Z_aload_n 19 3 dX2_pressByTreaties_18 rfl rfl ?_
      refine Z_iload 21 0 dX2_pressByTreaties_19 rfl rfl ?_
      refine Z_callV 24 [_] 1 (zX1_isInForce 1 (Or.inl rfl) i (by omega)) dX2_pressByTreaties_21 rfl qX2_37 kX1_isInForce rfl rfl (Nat.le_of_ble_eq_true rfl) rfl rfl ⟨(Nat.le_of_ble_eq_true rfl), (Nat.le_of_ble_eq_true rfl)⟩ (Nat.le_of_ble_eq_true rfl) ⟨rfl, rfl⟩ ⟨(Nat.le_of_ble_eq_true rfl), (Nat.le_of_ble_eq_true rfl)⟩ (fun r9 w9 hp9 => ?_)
      obtain ⟨rfl, rfl⟩ := hp9
      refine Z_if_ne 27 30 dX2_pressByTreaties_24 rfl rfl (fun c24 => ?_) (fun c24 => ?_)
      · skip
        exact K30 () (Or.inr (by
          have g : mm 9 i ≤ mm 1 9 := bI_1 c24
          rw [hF 9 (by decide), hF 1 (by decide)] at g
          exact g))
      · skip
        have np : ¬ (fl = 1 ∨ sForce m 1 i) := by
          intro q
          rcases q with q | q
          · rw [q] at c15
            exact c15 (by decide)
          · have g := bI_0 (by simpa using c24)
            exact g (by rw [hF 9 (by decide), hF 1 (by decide)]; exact q)
        have he : ((eL m (fun t => decide (fl = 1 ∨ sForce m 1 t))) i).1 = false := decide_eq_false np
        refine Z_goto 60 dX2_pressByTreaties_27 rfl ?_
        refine K60 _ _ hF (by rw [rxs_s, hc9]; exact (hL.skip he).1) (by rw [chg_s, decide_eq_false (hL.skip he).2, Bool.or_false])

set_option maxRecDepth 100000 in
set_option maxHeartbeats 4000000 in
theorem zX2_pressByTreaties {G : zG} {l : Launch} {h : Nat → Nat} {m : zM} (n : Nat) (hk : sOk m 1 n) (hd : dOk m n) (y : Nat → Int) (b : Int) (hb : b ≤ 20000) (fl : Nat) (hfl : fl ≤ 1) (hL : Lv m 57 y b) : zMet G l yX2_pressByTreaties mX2_pressByTreaties [.ref (G.1 + 56), .ref (G.1 + 1), .int (nI fl)] (zw h m) (fun r w => ∃ m', w = zw h m' ∧ r = some (.int (bI (chg y (eL m (fun t => decide (fl = 1 ∨ sForce m 1 t))) n = true))) ∧ Fr 57 m m' ∧ Lv m' 57 (rxs y (eL m (fun t => decide (fl = 1 ∨ sForce m 1 t))) n) (b + 60 * n)) 0 0 := by
  refine zMet_of [(0, .ref (G.1 + 56)), (1, .ref (G.1 + 1)), (2, .int (nI fl))] (by decide +kernel) rfl (Or.inl rfl) (Nat.le_of_ble_eq_true rfl) rfl ?_
  refine Z_iconst 1 (nI 0) dX2_pressByTreaties_0 rfl rfl ?_
  refine Z_istore_n 2 [(3, _), (0, _), (1, _), (2, _)] dX2_pressByTreaties_1 rfl (Nat.le_of_ble_eq_true rfl) rfl ?_
  refine Z_iconst 3 (nI 0) dX2_pressByTreaties_2 rfl rfl ?_
  refine Z_istore 5 [(4, _), (3, _), (0, _), (1, _), (2, _)] dX2_pressByTreaties_3 rfl (Nat.le_of_ble_eq_true rfl) rfl ?_
  exact lX2_pressByTreaties n hk hd y b hb fl hfl n 0 (by omega) m Fr.rf (fun q hq => by have := hL q hq; show (m 57 q).toInt = y q ∧ -(b + 60 * ((0 : Nat) : Int)) ≤ y q ∧ y q ≤ 99; omega)
end
section
/-! the least clipping by treaties; whether a treaty is possible -/
theorem Lv.mono {m : zM} {c : Nat} {y : Nat → Int} {b b' : Int} (h : Lv m c y b) (hb : b ≤ b') : Lv m c y b' := fun q hq => by
  have := h q hq
  omega
def HgtY (f : Nat → Int32) : Nat → Int := fun q => if q < 8 then (f q).toInt else 0
def Y99 : Nat → Int := fun q => if q < 8 then 99 else 0
def setM (m : zM) (i : Nat) : zM := fun q k => if q = 57 ∧ k < i then m 2 k else m q k
theorem setM_step (m : zM) (i : Nat) : up2 (setM m i) 57 i (m 2 i) = setM m (i + 1) := by
  funext q k
  unfold up2 setM
  by_cases h1 : q = 57
  · subst h1
    by_cases h2 : k = i
    · subst h2
      simp
    · by_cases h3 : k < i
      · simp [h2, h3, Nat.lt_succ_of_lt h3]
      · have h4 : ¬ k < i + 1 := by omega
        simp [h2, h3, h4]
  · simp [h1]
theorem setM_fr (m : zM) (i : Nat) : Fr 57 m (setM m i) := fun q hq => by
  funext k
  simp [setM, hq]
def set99 (m : zM) (i : Nat) : zM := fun q k => if q = 57 ∧ k < i then nI 99 else m q k
theorem set99_step (m : zM) (i : Nat) : up2 (set99 m i) 57 i (nI 99) = set99 m (i + 1) := by
  funext q k
  unfold up2 set99
  by_cases h1 : q = 57
  · subst h1
    by_cases h2 : k = i
    · subst h2
      simp
    · by_cases h3 : k < i
      · simp [h2, h3, Nat.lt_succ_of_lt h3]
      · have h4 : ¬ k < i + 1 := by omega
        simp [h2, h3, h4]
  · simp [h1]
theorem set99_fr (m : zM) (i : Nat) : Fr 57 m (set99 m i) := fun q hq => by
  funext k
  simp [set99, hq]
theorem eL_fr {m mm : zM} {fl : Nat} (hF : Fr 57 m mm) : eL mm (fun t => decide (fl = 1 ∨ sForce mm 1 t)) = eL m (fun t => decide (fl = 1 ∨ sForce m 1 t)) := by
  funext t
  unfold eL sForce sF sO
  rw [hF (1 + 8) (by decide), hF 1 (by decide), hF (1 + 5) (by decide), hF (1 + 6) (by decide), hF 8 (by decide)]
theorem sOk_fr {m mm : zM} {n c : Nat} (hc : 9 < c) (hF : Fr c m mm) (hk : sOk m 1 n) : sOk mm 1 n :=
  sOk_congr (by rw [hF 1 (by omega)]) (fun k _ => by rw [hF (1 + 5) (by omega)]) (fun k _ => by rw [hF (1 + 6) (by omega)]) hk
theorem dOk_fr {m mm : zM} {n c : Nat} (hc : 9 < c) (hF : Fr c m mm) (hd : dOk m n) : dOk mm n := fun t ht => by
  rw [hF 8 (by omega)]
  exact hd t ht
def EdOk (e : Nat → Ed) (n : Nat) : Prop := ∀ t, t < n → (e t).1 = true → (e t).2.1 < 8 ∧ (e t).2.2.1 < 8 ∧ -60 ≤ (e t).2.2.2 ∧ (e t).2.2.2 ≤ 60
def Fea (e : Nat → Ed) (n : Nat) : Prop := ∃ z : Nat → Int, (∀ q, q < 8 → 0 ≤ z q ∧ z q ≤ 99) ∧ ∀ t, t < n → (e t).1 = true → z (e t).2.1 ≤ z (e t).2.2.1 + (e t).2.2.2
theorem Fea.pot {e : Nat → Ed} {n : Nat} (he : EdOk e n) (h : Fea e n) : ∃ f, Pot e n f := by
  obtain ⟨z, h1, h2⟩ := h
  exact ⟨z, fun t ht hp => ⟨(he t ht hp).1, (he t ht hp).2.1, h2 t ht hp⟩⟩
theorem Fea.cut {e : Nat → Ed} {n : Nat} (he : EdOk e n) (h : Fea e n) : ∃ z : Nat → Int, (∀ q, q < 8 → 0 ≤ z q ∧ z q ≤ 99) ∧ (∀ q, ¬ q < 8 → z q = 0) ∧ Fx z e n := by
  obtain ⟨z, h1, h2⟩ := h
  refine ⟨fun q => if q < 8 then z q else 0, fun q hq => ?_, fun q hq => if_neg hq, fun t ht hp _ => ?_⟩
  · simp only [hq, if_true]
    exact h1 q hq
  · obtain ⟨a1, a2, -⟩ := he t ht hp
    have := h2 t ht hp
    simp only [a1, a2, if_true]
    exact this
theorem eL_ok {m : zM} {n : Nat} {p : Nat → Bool} (hk : sOk m 1 n) (hd : dOk m n) : EdOk (eL m p) n := fun t ht _ => by
  have a1 := hk.2.2 t ht
  have a2 := hd t ht
  refine ⟨a1.1.2, a1.2.2, ?_, ?_⟩
  · show -60 ≤ (m 8 t).toInt
    omega
  · show (m 8 t).toInt ≤ 60
    omega
set_option maxRecDepth 100000 in
set_option maxHeartbeats 4000000 in
theorem lX2_flc53 {G : zG} {l : Launch} {h : Nat → Nat} {m : zM} (n : Nat) (hk : sOk m 1 n) (hd : dOk m n) (hh0 : ∀ q, q < 8 → 0 ≤ (m 2 q).toInt ∧ (m 2 q).toInt ≤ 99) (f9 : Nat → Int) (hp : Pot (eL m (fun t => decide (0 = 1 ∨ sForce m 1 t))) n f9) (i : Nat) (mm : zM) (hF : Fr 57 m mm) (hL : Lv mm 57 (sk (HgtY (m 2)) (eL m (fun t => decide (0 = 1 ∨ sForce m 1 t))) n i) 20000) (hx : Fx (sk (HgtY (m 2)) (eL m (fun t => decide (0 = 1 ∨ sForce m 1 t))) n i) (eL m (fun t => decide (0 = 1 ∨ sForce m 1 t))) n) : Z G mX2_findLeastClipping (fun _ => True) (zN G (fun r w => ∃ m' y, w = zw h m' ∧ Fr 57 m m' ∧ Top (HgtY (m 2)) (eL m (fun t => decide (0 = 1 ∨ sForce m 1 t))) n y ∧ Lv m' 57 y 20000 ∧ ((r = some (.int (nI 1)) ∧ ∀ q, q < 8 → 0 ≤ y q) ∨ (r = some (.int (nI 0)) ∧ ∃ q, q < 8 ∧ y q < 0))) 0 0) l 0 0 (zw h mm) 53 [(3, .int (nI i)), (2, .int (nI 0)), (0, .ref (G.1 + 56)), (1, .ref (G.1 + 1))] [] := by
  refine Z_iload_n 54 1 dX2_findLeastClipping_53 rfl rfl ?_
  refine Z_if_ne 57 68 dX2_findLeastClipping_54 rfl rfl (fun c54 => absurd c54 (fun q => q rfl)) (fun c54 => ?_)
  refine Z_aload_n 58 2 dX2_findLeastClipping_57 rfl rfl ?_
  refine Z_callV 61 [] 2 (zX2_areLevelsAboveGround (m := mm)) dX2_findLeastClipping_58 rfl qX2_71 kX2_areLevelsAboveGround rfl rfl (Nat.le_of_ble_eq_true rfl) rfl rfl ⟨(Nat.le_of_ble_eq_true rfl), (Nat.le_of_ble_eq_true rfl)⟩ (Nat.le_of_ble_eq_true rfl) ⟨rfl, rfl⟩ ⟨(Nat.le_of_ble_eq_true rfl), (Nat.le_of_ble_eq_true rfl)⟩ (fun r9 w9 hp9 => ?_)
  obtain ⟨rfl, hr9⟩ := hp9
  rcases hr9 with ⟨rfl, hr9⟩ | ⟨rfl, hr9⟩
  · refine Z_if_eq 64 68 dX2_findLeastClipping_61 rfl rfl (fun c61 => absurd c61 (by decide)) (fun c61 => ?_)
    refine Z_iconst 65 (nI 1) dX2_findLeastClipping_64 rfl rfl ?_
    refine Z_goto 69 dX2_findLeastClipping_65 rfl ?_
    refine Z_zret dX2_findLeastClipping_69 rfl (Or.inr rfl) ⟨mm, _, rfl, hF, sk_top hx, hL, Or.inl ⟨rfl, fun q hq => ?_⟩⟩
    have a1 := hr9 q hq
    have a2 := hL q hq
    rw [i32_lt] at a1
    have a3 : (0 : Int32).toInt = 0 := rfl
    omega
  · refine Z_if_eq 64 68 dX2_findLeastClipping_61 rfl rfl (fun c61 => ?_) (fun c61 => absurd rfl c61)
    refine Z_iconst 69 (nI 0) dX2_findLeastClipping_68 rfl rfl ?_
    refine Z_zret dX2_findLeastClipping_69 rfl (Or.inl rfl) ⟨mm, _, rfl, hF, sk_top hx, hL, Or.inr ⟨rfl, ?_⟩⟩
    obtain ⟨q, hq, a1⟩ := hr9
    have a2 := hL q hq
    rw [i32_lt] at a1
    have a3 : (0 : Int32).toInt = 0 := rfl
    exact ⟨q, hq, by omega⟩
set_option maxRecDepth 100000 in
set_option maxHeartbeats 4000000 in
theorem lX2_flc {G : zG} {l : Launch} {h : Nat → Nat} {m : zM} (n : Nat) (hk : sOk m 1 n) (hd : dOk m n) (hh0 : ∀ q, q < 8 → 0 ≤ (m 2 q).toInt ∧ (m 2 q).toInt ≤ 99) (f9 : Nat → Int) (hp : Pot (eL m (fun t => decide (0 = 1 ∨ sForce m 1 t))) n f9) : ∀ (t i : Nat), i + t = 8 → ∀ (mm : zM) (L : Int32), Fr 57 m mm → Lv mm 57 (sk (HgtY (m 2)) (eL m (fun t => decide (0 = 1 ∨ sForce m 1 t))) n i) (900 * i) → ((L = nI 0 ∧ Fx (sk (HgtY (m 2)) (eL m (fun t => decide (0 = 1 ∨ sForce m 1 t))) n i) (eL m (fun t => decide (0 = 1 ∨ sForce m 1 t))) n) ∨ (L = nI 1 ∧ i ≤ 7)) → Z G mX2_findLeastClipping (fun _ => True) (zN G (fun r w => ∃ m' y, w = zw h m' ∧ Fr 57 m m' ∧ Top (HgtY (m 2)) (eL m (fun t => decide (0 = 1 ∨ sForce m 1 t))) n y ∧ Lv m' 57 y 20000 ∧ ((r = some (.int (nI 1)) ∧ ∀ q, q < 8 → 0 ≤ y q) ∨ (r = some (.int (nI 0)) ∧ ∃ q, q < 8 ∧ y q < 0))) 0 0) l 0 0 (zw h mm) 30 [(3, .int (nI i)), (2, .int L), (0, .ref (G.1 + 56)), (1, .ref (G.1 + 1))] [] := by
  intro t
  induction t with
  | zero =>
    intro i hi mm L hF hL hQ
    have e9 : i = 8 := by omega
    subst e9
    obtain ⟨rfl, hx⟩ : L = nI 0 ∧ Fx (sk (HgtY (m 2)) (eL m (fun t => decide (0 = 1 ∨ sForce m 1 t))) n 8) (eL m (fun t => decide (0 = 1 ∨ sForce m 1 t))) n := by
      rcases hQ with q | q
      · exact q
      · exact absurd q.2 (by decide)
    refine Z_iload_n 31 0 dX2_findLeastClipping_30 rfl rfl ?_
    refine Z_bipush 33 (nI 8) dX2_findLeastClipping_31 rfl rfl ?_
    refine Z_icmp_ge 36 53 dX2_findLeastClipping_33 rfl rfl (fun c33 => ?_) (fun c33 => absurd (nI_le (Nat.le_refl _) (by omega)) c33)
    exact lX2_flc53 n hk hd hh0 f9 hp 8 mm hF (hL.mono (by decide)) hx
  | succ t ih =>
    intro i hi mm L hF hL hQ
    have hlt : i < 8 := by omega
    have hn := hk.2.1
    refine Z_iload_n 31 0 dX2_findLeastClipping_30 rfl rfl ?_
    refine Z_bipush 33 (nI 8) dX2_findLeastClipping_31 rfl rfl ?_
    refine Z_icmp_ge 36 53 dX2_findLeastClipping_33 rfl rfl (fun c33 => absurd c33 (nI_ge hlt (by omega))) (fun c33 => ?_)
    refine Z_iload_n 37 1 dX2_findLeastClipping_36 rfl rfl ?_
    refine Z_if_eq 40 53 dX2_findLeastClipping_37 rfl rfl (fun c37 => ?_) (fun c37 => ?_)
    · skip
      obtain ⟨rfl, hx⟩ : L = nI 0 ∧ Fx (sk (HgtY (m 2)) (eL m (fun t => decide (0 = 1 ∨ sForce m 1 t))) n i) (eL m (fun t => decide (0 = 1 ∨ sForce m 1 t))) n := by
        rcases hQ with q | q
        · exact q
        · rw [q.1] at c37
          exact absurd c37 (by decide)
      exact lX2_flc53 n hk hd hh0 f9 hp i mm hF (hL.mono (by omega)) hx
    · skip
      have h7 : i ≤ 7 := by omega
      refine Z_aload_n 41 2 dX2_findLeastClipping_40 rfl rfl ?_
      refine Z_aload_n 42 3 dX2_findLeastClipping_41 rfl rfl ?_
      refine Z_iconst 43 (nI 0) dX2_findLeastClipping_42 rfl rfl ?_
      refine Z_callV 46 [_, _] 2 (zX2_pressByTreaties (m := mm) n (sOk_fr (by decide) hF hk) (dOk_fr (by decide) hF hd) (sk (HgtY (m 2)) (eL m (fun t => decide (0 = 1 ∨ sForce m 1 t))) n i) (900 * i) (by omega) 0 (by decide) hL) dX2_findLeastClipping_43 rfl qX2_67 kX2_pressByTreaties rfl rfl (Nat.le_of_ble_eq_true rfl) rfl rfl ⟨(Nat.le_of_ble_eq_true rfl), (Nat.le_of_ble_eq_true rfl)⟩ (Nat.le_of_ble_eq_true rfl) ⟨rfl, rfl⟩ ⟨(Nat.le_of_ble_eq_true rfl), (Nat.le_of_ble_eq_true rfl)⟩ (fun r9 w9 hp9 => ?_)
      obtain ⟨m2, rfl, hr9, hF2, hL2⟩ := hp9
      cases hr9
      rw [eL_fr hF] at hL2
      rw [eL_fr hF]
      refine Z_istore_n 47 [(2, _), (3, _), (0, _), (1, _)] dX2_findLeastClipping_46 rfl (Nat.le_of_ble_eq_true rfl) rfl ?_
      refine Z_iinc 50 [(3, _), (2, _), (0, _), (1, _)] 1 _ dX2_findLeastClipping_47 rfl (Nat.le_of_ble_eq_true rfl) rfl (nI_1 _) rfl ?_
      refine Z_goto 30 dX2_findLeastClipping_50 rfl ?_
      refine ih (i + 1) (by omega) m2 _ (hF.trans hF2) (hL2.mono (by rw [Int.natCast_add]; omega)) ?_
      cases hc9 : chg (sk (HgtY (m 2)) (eL m (fun t => decide (0 = 1 ∨ sForce m 1 t))) n i) (eL m (fun t => decide (0 = 1 ∨ sForce m 1 t))) n with
      | false =>
        refine Or.inl ⟨rfl, ?_⟩
        obtain ⟨g1, g2⟩ := chg_f n hc9
        show Fx (rxs (sk (HgtY (m 2)) (eL m (fun t => decide (0 = 1 ∨ sForce m 1 t))) n i) (eL m (fun t => decide (0 = 1 ∨ sForce m 1 t))) n) (eL m (fun t => decide (0 = 1 ∨ sForce m 1 t))) n
        rw [g1]
        exact g2
      | true =>
        refine Or.inr ⟨rfl, ?_⟩
        rcases Nat.lt_or_ge i 7 with g | g
        · omega
        · have e7 : i = 7 := by omega
          subst e7
          rw [(Fx_chg n (sk_7 hp)).2] at hc9
          cases hc9

set_option maxRecDepth 100000 in
set_option maxHeartbeats 4000000 in
theorem lX2_flc1 {G : zG} {l : Launch} {h : Nat → Nat} {m : zM} (n : Nat) (hk : sOk m 1 n) (hd : dOk m n) (hh0 : ∀ q, q < 8 → 0 ≤ (m 2 q).toInt ∧ (m 2 q).toInt ≤ 99) (f9 : Nat → Int) (hp : Pot (eL m (fun t => decide (0 = 1 ∨ sForce m 1 t))) n f9) : ∀ (t i : Nat), i + t = 8 → Z G mX2_findLeastClipping (fun _ => True) (zN G (fun r w => ∃ m' y, w = zw h m' ∧ Fr 57 m m' ∧ Top (HgtY (m 2)) (eL m (fun t => decide (0 = 1 ∨ sForce m 1 t))) n y ∧ Lv m' 57 y 20000 ∧ ((r = some (.int (nI 1)) ∧ ∀ q, q < 8 → 0 ≤ y q) ∨ (r = some (.int (nI 0)) ∧ ∃ q, q < 8 ∧ y q < 0))) 0 0) l 0 0 (zw h (setM m i)) 2 [(2, .int (nI i)), (0, .ref (G.1 + 56)), (1, .ref (G.1 + 1))] [] := by
  intro t
  induction t with
  | zero =>
    intro i hi
    have e9 : i = 8 := by omega
    subst e9
    refine Z_iload_n 3 0 dX2_findLeastClipping_2 rfl rfl ?_
    refine Z_bipush 5 (nI 8) dX2_findLeastClipping_3 rfl rfl ?_
    refine Z_icmp_ge 8 26 dX2_findLeastClipping_5 rfl rfl (fun c5 => ?_) (fun c5 => absurd (nI_le (Nat.le_refl _) (by omega)) c5)
    refine Z_iconst 27 (nI 1) dX2_findLeastClipping_26 rfl rfl ?_
    refine Z_istore_n 28 [(2, _), (0, _), (1, _)] dX2_findLeastClipping_27 rfl (Nat.le_of_ble_eq_true rfl) rfl ?_
    refine Z_iconst 29 (nI 0) dX2_findLeastClipping_28 rfl rfl ?_
    refine Z_istore_n 30 [(3, _), (2, _), (0, _), (1, _)] dX2_findLeastClipping_29 rfl (Nat.le_of_ble_eq_true rfl) rfl ?_
    refine lX2_flc n hk hd hh0 f9 hp 8 0 (by omega) (setM m 8) _ (setM_fr m 8) (fun q hq => ?_) (Or.inr ⟨rfl, by decide⟩)
    have a1 := hh0 q hq
    have a2 : setM m 8 57 q = m 2 q := by simp [setM, hq]
    have a3 : sk (HgtY (m 2)) (eL m (fun t => decide (0 = 1 ∨ sForce m 1 t))) n 0 q = (m 2 q).toInt := if_pos hq
    rw [a2, a3]
    omega
  | succ t ih =>
    intro i hi
    have hlt : i < 8 := by omega
    refine Z_iload_n 3 0 dX2_findLeastClipping_2 rfl rfl ?_
    refine Z_bipush 5 (nI 8) dX2_findLeastClipping_3 rfl rfl ?_
    refine Z_icmp_ge 8 26 dX2_findLeastClipping_5 rfl rfl (fun c5 => absurd c5 (nI_ge hlt (by omega))) (fun c5 => ?_)
    refine Z_aload_n 9 1 dX2_findLeastClipping_8 rfl rfl ?_
    refine Z_getR 12 dX2_findLeastClipping_9 rfl fX2_9 (Nat.le_of_ble_eq_true rfl) rfl rfl ?_
    refine Z_iload_n 13 0 dX2_findLeastClipping_12 rfl rfl ?_
    refine Z_aload_n 14 2 dX2_findLeastClipping_13 rfl rfl ?_
    refine Z_getR 17 dX2_findLeastClipping_14 rfl fX2_64 (Nat.le_of_ble_eq_true rfl) rfl rfl ?_
    refine Z_iload_n 18 0 dX2_findLeastClipping_17 rfl rfl ?_
    refine Z_ialn 19 dX2_findLeastClipping_18 rfl (Nat.le_of_ble_eq_true rfl) rfl hlt (by decide) ?_
    refine Z_top (v' := .int (m 2 i)) (congrArg Value.int (by simp [setM])) ?_
    refine Z_iasn 20 dX2_findLeastClipping_19 rfl (Nat.le_of_ble_eq_true rfl) rfl (by first | assumption | omega) (by decide) ?_
    rw [setM_step]
    refine Z_iinc 23 [(2, _), (0, _), (1, _)] 0 _ dX2_findLeastClipping_20 rfl (Nat.le_of_ble_eq_true rfl) rfl (nI_1 _) rfl ?_
    refine Z_goto 2 dX2_findLeastClipping_23 rfl ?_
    exact ih (i + 1) (by omega)

set_option maxRecDepth 100000 in
set_option maxHeartbeats 4000000 in
theorem zX2_findLeastClipping {G : zG} {l : Launch} {h : Nat → Nat} {m : zM} (n : Nat) (hk : sOk m 1 n) (hd : dOk m n) (hh0 : ∀ q, q < 8 → 0 ≤ (m 2 q).toInt ∧ (m 2 q).toInt ≤ 99) (f9 : Nat → Int) (hp : Pot (eL m (fun t => decide (0 = 1 ∨ sForce m 1 t))) n f9) : zMet G l yX2_findLeastClipping mX2_findLeastClipping [.ref (G.1 + 56), .ref (G.1 + 1)] (zw h m) (fun r w => ∃ m' y, w = zw h m' ∧ Fr 57 m m' ∧ Top (HgtY (m 2)) (eL m (fun t => decide (0 = 1 ∨ sForce m 1 t))) n y ∧ Lv m' 57 y 20000 ∧ ((r = some (.int (nI 1)) ∧ ∀ q, q < 8 → 0 ≤ y q) ∨ (r = some (.int (nI 0)) ∧ ∃ q, q < 8 ∧ y q < 0))) 0 0 := by
  refine zMet_of [(0, .ref (G.1 + 56)), (1, .ref (G.1 + 1))] (by decide +kernel) rfl (Or.inl rfl) (Nat.le_of_ble_eq_true rfl) rfl ?_
  refine Z_iconst 1 (nI 0) dX2_findLeastClipping_0 rfl rfl ?_
  refine Z_istore_n 2 [(2, _), (0, _), (1, _)] dX2_findLeastClipping_1 rfl (Nat.le_of_ble_eq_true rfl) rfl ?_
  refine Z_w (w' := zw h (setM m 0)) (congrArg (zw h) (by funext q k; simp [setM])) ?_
  exact lX2_flc1 n hk hd hh0 f9 hp 8 0 (by omega)

/-- the new treaty first, then all signed ones -/
def eN (m : zM) (f o : Nat) (d : Int32) : Nat → Ed := fun t => match t with
  | 0 => (true, f, o, d.toInt)
  | t + 1 => eL m (fun t => decide (1 = 1 ∨ sForce m 1 t)) t
theorem rxs_cons (y : Nat → Int) (e : Nat → Ed) : ∀ n, rxs y e (n + 1) = rxs (rx1 y (e 0)) (fun t => e (t + 1)) n
  | 0 => rfl
  | n + 1 => by
    show rx1 (rxs y e (n + 1)) (e (n + 1)) = rx1 (rxs (rx1 y (e 0)) (fun t => e (t + 1)) n) (e (n + 1))
    rw [rxs_cons y e n]
theorem chg_cons (y : Nat → Int) (e : Nat → Ed) : ∀ n, chg y e (n + 1) = (decide (hit y (e 0)) || chg (rx1 y (e 0)) (fun t => e (t + 1)) n)
  | 0 => by
    show (false || decide (hit y (e 0))) = (decide (hit y (e 0)) || false)
    rw [Bool.false_or, Bool.or_false]
  | n + 1 => by
    rw [chg_s, chg_cons y e n, chg_s, rxs_cons y e n, Bool.or_assoc]
theorem eN_ok {m : zM} {n f o : Nat} {d : Int32} (hk : sOk m 1 n) (hd : dOk m n) (hf : f < 8) (ho : o < 8) (hd2 : -60 ≤ d.toInt ∧ d.toInt ≤ 60) : EdOk (eN m f o d) (n + 1) := fun t ht hp => by
  cases t with
  | zero => exact ⟨hf, ho, hd2.1, hd2.2⟩
  | succ t => exact eL_ok hk hd t (by omega) hp
set_option maxRecDepth 100000 in
set_option maxHeartbeats 4000000 in
theorem lX2_ipw71 {G : zG} {l : Launch} {h : Nat → Nat} {m : zM} (n : Nat) (hk : sOk m 1 n) (hd : dOk m n) (f o : Nat) (hf : f < 8) (ho : o < 8) (d : Int32) (hd2 : -60 ≤ d.toInt ∧ d.toInt ≤ 60) (i : Nat) (mm : zM) (L : Int32) (hF : Fr 57 m mm) (hL : Lv mm 57 (sk Y99 (eN m f o d) (n + 1) i) 20000) (hQ : (L = nI 0 ∧ Fx (sk Y99 (eN m f o d) (n + 1) i) (eN m f o d) (n + 1)) ∨ (L = nI 1 ∧ chg (sk Y99 (eN m f o d) (n + 1) 7) (eN m f o d) (n + 1) = true)) : Z G mX2_isPossibleWith (fun _ => True) (zN G (fun r w => ∃ m', w = zw h m' ∧ Fr 57 m m' ∧ ((r = some (.int (nI 1)) ∧ Fea (eN m f o d) (n + 1)) ∨ (r = some (.int (nI 0)) ∧ ¬ Fea (eN m f o d) (n + 1)))) 0 0) l 0 0 (zw h mm) 71 [(6, .int (nI i)), (5, .int L), (0, .ref (G.1 + 56)), (1, .ref (G.1 + 1)), (2, .int (nI f)), (3, .int (nI o)), (4, .int d)] [] := by
  have hok := eN_ok hk hd hf ho hd2
  refine Z_iload 73 1 dX2_isPossibleWith_71 rfl rfl ?_
  rcases hQ with ⟨rfl, hx⟩ | ⟨rfl, hx⟩
  · refine Z_if_ne 76 87 dX2_isPossibleWith_73 rfl rfl (fun c73 => absurd c73 (fun q => q rfl)) (fun c73 => ?_)
    refine Z_aload_n 77 2 dX2_isPossibleWith_76 rfl rfl ?_
    refine Z_callV 80 [] 2 (zX2_areLevelsAboveGround (m := mm)) dX2_isPossibleWith_77 rfl qX2_71 kX2_areLevelsAboveGround rfl rfl (Nat.le_of_ble_eq_true rfl) rfl rfl ⟨(Nat.le_of_ble_eq_true rfl), (Nat.le_of_ble_eq_true rfl)⟩ (Nat.le_of_ble_eq_true rfl) ⟨rfl, rfl⟩ ⟨(Nat.le_of_ble_eq_true rfl), (Nat.le_of_ble_eq_true rfl)⟩ (fun r9 w9 hp9 => ?_)
    obtain ⟨rfl, hr9⟩ := hp9
    have a3 : (0 : Int32).toInt = 0 := rfl
    rcases hr9 with ⟨rfl, hr9⟩ | ⟨rfl, hr9⟩
    · refine Z_if_eq 83 87 dX2_isPossibleWith_80 rfl rfl (fun c61 => absurd c61 (by decide)) (fun c61 => ?_)
      refine Z_iconst 84 (nI 1) dX2_isPossibleWith_83 rfl rfl ?_
      refine Z_goto 88 dX2_isPossibleWith_84 rfl ?_
      refine Z_zret dX2_isPossibleWith_88 rfl (Or.inr rfl) ⟨mm, rfl, hF, Or.inl ⟨rfl, sk Y99 (eN m f o d) (n + 1) i, fun q hq => ?_, fun t ht hp => ?_⟩⟩
      · have a1 := hr9 q hq
        have a2 := hL q hq
        rw [i32_lt] at a1
        omega
      · obtain ⟨g1, g2, -⟩ := hok t ht hp
        have a2 := hL _ g2
        exact hx t ht hp (by show _ < (100000 : Int); omega)
    · refine Z_if_eq 83 87 dX2_isPossibleWith_80 rfl rfl (fun c61 => ?_) (fun c61 => absurd rfl c61)
      refine Z_iconst 88 (nI 0) dX2_isPossibleWith_87 rfl rfl ?_
      refine Z_zret dX2_isPossibleWith_88 rfl (Or.inl rfl) ⟨mm, rfl, hF, Or.inr ⟨rfl, fun hfe => ?_⟩⟩
      obtain ⟨z, z1, z2, z3⟩ := Fea.cut hok hfe
      obtain ⟨q, hq, a1⟩ := hr9
      have a2 := hL q hq
      rw [i32_lt] at a1
      have a4 := sk_low (y := Y99) (z := z) (fun q => by
        unfold Y99
        by_cases g : q < 8
        · rw [if_pos g]
          exact (z1 q g).2
        · rw [if_neg g, z2 q g]
          exact Int.le_refl 0) z3 i q
      have a5 := z1 q hq
      omega
  · refine Z_if_ne 76 87 dX2_isPossibleWith_73 rfl rfl (fun c73 => ?_) (fun c73 => absurd (by decide) c73)
    refine Z_iconst 88 (nI 0) dX2_isPossibleWith_87 rfl rfl ?_
    refine Z_zret dX2_isPossibleWith_88 rfl (Or.inl rfl) ⟨mm, rfl, hF, Or.inr ⟨rfl, fun hfe => ?_⟩⟩
    obtain ⟨f9, hp⟩ := Fea.pot hok hfe
    rw [(Fx_chg _ (sk_7 hp)).2] at hx
    cases hx
set_option maxRecDepth 100000 in
set_option maxHeartbeats 4000000 in
theorem lX2_ipw {G : zG} {l : Launch} {h : Nat → Nat} {m : zM} (n : Nat) (hk : sOk m 1 n) (hd : dOk m n) (f o : Nat) (hf : f < 8) (ho : o < 8) (d : Int32) (hd2 : -60 ≤ d.toInt ∧ d.toInt ≤ 60) : ∀ (t i : Nat), i + t = 8 → ∀ (mm : zM) (L : Int32), Fr 57 m mm → Lv mm 57 (sk Y99 (eN m f o d) (n + 1) i) (900 * i) → ((L = nI 0 ∧ Fx (sk Y99 (eN m f o d) (n + 1) i) (eN m f o d) (n + 1)) ∨ (L = nI 1 ∧ (i = 0 ∨ ∃ k, i = k + 1 ∧ chg (sk Y99 (eN m f o d) (n + 1) k) (eN m f o d) (n + 1) = true))) → Z G mX2_isPossibleWith (fun _ => True) (zN G (fun r w => ∃ m', w = zw h m' ∧ Fr 57 m m' ∧ ((r = some (.int (nI 1)) ∧ Fea (eN m f o d) (n + 1)) ∨ (r = some (.int (nI 0)) ∧ ¬ Fea (eN m f o d) (n + 1)))) 0 0) l 0 0 (zw h mm) 31 [(6, .int (nI i)), (5, .int L), (0, .ref (G.1 + 56)), (1, .ref (G.1 + 1)), (2, .int (nI f)), (3, .int (nI o)), (4, .int d)] [] := by
  intro t
  induction t with
  | zero =>
    intro i hi mm L hF hL hQ
    have e9 : i = 8 := by omega
    subst e9
    refine Z_iload 33 0 dX2_isPossibleWith_31 rfl rfl ?_
    refine Z_bipush 35 (nI 8) dX2_isPossibleWith_33 rfl rfl ?_
    refine Z_icmp_ge 38 71 dX2_isPossibleWith_35 rfl rfl (fun c35 => ?_) (fun c35 => absurd (nI_le (Nat.le_refl _) (by omega)) c35)
    refine lX2_ipw71 n hk hd f o hf ho d hd2 8 mm _ hF (hL.mono (by decide)) ?_
    rcases hQ with q | ⟨q1, q2⟩
    · exact Or.inl q
    · rcases q2 with q2 | ⟨k, q3, q4⟩
      · cases q2
      · cases q3
        exact Or.inr ⟨q1, q4⟩
  | succ t ih =>
    intro i hi mm L hF hL hQ
    have hlt : i < 8 := by omega
    have hn := hk.2.1
    have K65 : ∀ (m2 : zM) (v : Int32), Fr 57 m m2 → Lv m2 57 (sk Y99 (eN m f o d) (n + 1) (i + 1)) (900 * ((i + 1 : Nat) : Int)) → v = bI (chg (sk Y99 (eN m f o d) (n + 1) i) (eN m f o d) (n + 1) = true) → Z G mX2_isPossibleWith (fun _ => True) (zN G (fun r w => ∃ m', w = zw h m' ∧ Fr 57 m m' ∧ ((r = some (.int (nI 1)) ∧ Fea (eN m f o d) (n + 1)) ∨ (r = some (.int (nI 0)) ∧ ¬ Fea (eN m f o d) (n + 1)))) 0 0) l 0 0 (zw h m2) 65 [(6, .int (nI i)), (5, .int v), (0, .ref (G.1 + 56)), (1, .ref (G.1 + 1)), (2, .int (nI f)), (3, .int (nI o)), (4, .int d)] [] := by
      intro m2 v hF2 hL2 hv
      refine Z_iinc 68 [(6, _), (5, _), (0, _), (1, _), (2, _), (3, _), (4, _)] 0 _ dX2_isPossibleWith_65 rfl (Nat.le_of_ble_eq_true rfl) rfl (nI_1 _) rfl ?_
      refine Z_goto 31 dX2_isPossibleWith_68 rfl ?_
      refine ih (i + 1) (by omega) m2 v hF2 hL2 ?_
      cases hc9 : chg (sk Y99 (eN m f o d) (n + 1) i) (eN m f o d) (n + 1) with
      | false =>
        obtain ⟨g1, g2⟩ := chg_f _ hc9
        refine Or.inl ⟨by rw [hv, hc9]; rfl, ?_⟩
        show Fx (rxs (sk Y99 (eN m f o d) (n + 1) i) (eN m f o d) (n + 1)) (eN m f o d) (n + 1)
        rw [g1]
        exact g2
      | true => exact Or.inr ⟨by rw [hv, hc9]; rfl, Or.inr ⟨i, rfl, hc9⟩⟩
    refine Z_iload 33 0 dX2_isPossibleWith_31 rfl rfl ?_
    refine Z_bipush 35 (nI 8) dX2_isPossibleWith_33 rfl rfl ?_
    refine Z_icmp_ge 38 71 dX2_isPossibleWith_35 rfl rfl (fun c35 => absurd c35 (nI_ge hlt (by omega))) (fun c35 => ?_)
    refine Z_iload 40 1 dX2_isPossibleWith_38 rfl rfl ?_
    refine Z_if_eq 43 71 dX2_isPossibleWith_40 rfl rfl (fun c40 => ?_) (fun c40 => ?_)
    · skip
      obtain ⟨rfl, hx⟩ : L = nI 0 ∧ Fx (sk Y99 (eN m f o d) (n + 1) i) (eN m f o d) (n + 1) := by
        rcases hQ with q | q
        · exact q
        · rw [q.1] at c40
          exact absurd c40 (by decide)
      exact lX2_ipw71 n hk hd f o hf ho d hd2 i mm _ hF (hL.mono (by omega)) (Or.inl ⟨rfl, hx⟩)
    · skip
      refine Z_aload_n 44 2 dX2_isPossibleWith_43 rfl rfl ?_
      refine Z_iload_n 45 4 dX2_isPossibleWith_44 rfl rfl ?_
      refine Z_iload_n 46 5 dX2_isPossibleWith_45 rfl rfl ?_
      refine Z_iload 48 6 dX2_isPossibleWith_46 rfl rfl ?_
      refine Z_callV 51 [_, _, _] 2 (zX2_press (m := mm) (sk Y99 (eN m f o d) (n + 1) i) (900 * i) (by omega) hL f o hf ho d hd2) dX2_isPossibleWith_48 rfl qX2_75 kX2_press rfl rfl (Nat.le_of_ble_eq_true rfl) rfl rfl ⟨(Nat.le_of_ble_eq_true rfl), (Nat.le_of_ble_eq_true rfl)⟩ (Nat.le_of_ble_eq_true rfl) ⟨rfl, rfl⟩ ⟨(Nat.le_of_ble_eq_true rfl), (Nat.le_of_ble_eq_true rfl)⟩ (fun r9 w9 hp9 => ?_)
      obtain ⟨m2, rfl, hr9, hF2, hL2⟩ := hp9
      cases hr9
      refine Z_istore 53 [(5, _), (6, _), (0, _), (1, _), (2, _), (3, _), (4, _)] dX2_isPossibleWith_51 rfl (Nat.le_of_ble_eq_true rfl) rfl ?_
      refine Z_aload_n 54 2 dX2_isPossibleWith_53 rfl rfl ?_
      refine Z_aload_n 55 3 dX2_isPossibleWith_54 rfl rfl ?_
      refine Z_iconst 56 (nI 1) dX2_isPossibleWith_55 rfl rfl ?_
      refine Z_callV 59 [_, _] 2 (zX2_pressByTreaties (m := m2) n (sOk_fr (by decide) (hF.trans hF2) hk) (dOk_fr (by decide) (hF.trans hF2) hd) (rx1 (sk Y99 (eN m f o d) (n + 1) i) (true, f, o, d.toInt)) (900 * i + 60) (by omega) 1 (by decide) hL2) dX2_isPossibleWith_56 rfl qX2_67 kX2_pressByTreaties rfl rfl (Nat.le_of_ble_eq_true rfl) rfl rfl ⟨(Nat.le_of_ble_eq_true rfl), (Nat.le_of_ble_eq_true rfl)⟩ (Nat.le_of_ble_eq_true rfl) ⟨rfl, rfl⟩ ⟨(Nat.le_of_ble_eq_true rfl), (Nat.le_of_ble_eq_true rfl)⟩ (fun r9 w9 hp9 => ?_)
      obtain ⟨m3, rfl, hr9, hF3, hL3⟩ := hp9
      cases hr9
      rw [eL_fr (hF.trans hF2)] at hL3
      rw [eL_fr (hF.trans hF2)]
      have he1 : sk Y99 (eN m f o d) (n + 1) (i + 1) = rxs (rx1 (sk Y99 (eN m f o d) (n + 1) i) (true, f, o, d.toInt)) (eL m (fun t => decide (1 = 1 ∨ sForce m 1 t))) n := rxs_cons _ _ n
      have he2 : chg (sk Y99 (eN m f o d) (n + 1) i) (eN m f o d) (n + 1) = (decide (hit (sk Y99 (eN m f o d) (n + 1) i) (true, f, o, d.toInt)) || chg (rx1 (sk Y99 (eN m f o d) (n + 1) i) (true, f, o, d.toInt)) (eL m (fun t => decide (1 = 1 ∨ sForce m 1 t))) n) := chg_cons _ _ n
      have hL4 : Lv m3 57 (sk Y99 (eN m f o d) (n + 1) (i + 1)) (900 * ((i + 1 : Nat) : Int)) := by rw [he1]; exact hL3.mono (by rw [Int.natCast_add]; omega)
      refine Z_if_eq 62 65 dX2_isPossibleWith_59 rfl rfl (fun c59 => ?_) (fun c59 => ?_)
      · skip
        refine Z_lv [1, 0, 2, 3, 4, 5, 6] rfl ?_
        refine K65 _ _ ((hF.trans hF2).trans hF3) hL4 ?_
        have g := bI_0 c59
        rw [Bool.not_eq_true] at g
        rw [he2, g, Bool.or_false]
        by_cases g2 : hit (sk Y99 (eN m f o d) (n + 1) i) (true, f, o, d.toInt)
        · rw [bI_t g2, decide_eq_true g2]; rfl
        · rw [bI_f g2, decide_eq_false g2]; rfl
      · skip
        refine Z_iconst 63 (nI 1) dX2_isPossibleWith_62 rfl rfl ?_
        refine Z_istore 65 [(5, _), (6, _), (0, _), (1, _), (2, _), (3, _), (4, _)] dX2_isPossibleWith_63 rfl (Nat.le_of_ble_eq_true rfl) rfl ?_
        refine Z_lv [1, 0, 2, 3, 4, 5, 6] rfl ?_
        refine K65 _ _ ((hF.trans hF2).trans hF3) hL4 ?_
        have g := bI_1 c59
        rw [he2, g, Bool.or_true]
        rfl

set_option maxRecDepth 100000 in
set_option maxHeartbeats 4000000 in
theorem lX2_ipw1 {G : zG} {l : Launch} {h : Nat → Nat} {m : zM} (n : Nat) (hk : sOk m 1 n) (hd : dOk m n) (f o : Nat) (hf : f < 8) (ho : o < 8) (d : Int32) (hd2 : -60 ≤ d.toInt ∧ d.toInt ≤ 60) : ∀ (t i : Nat), i + t = 8 → Z G mX2_isPossibleWith (fun _ => True) (zN G (fun r w => ∃ m', w = zw h m' ∧ Fr 57 m m' ∧ ((r = some (.int (nI 1)) ∧ Fea (eN m f o d) (n + 1)) ∨ (r = some (.int (nI 0)) ∧ ¬ Fea (eN m f o d) (n + 1)))) 0 0) l 0 0 (zw h (set99 m i)) 3 [(5, .int (nI i)), (0, .ref (G.1 + 56)), (1, .ref (G.1 + 1)), (2, .int (nI f)), (3, .int (nI o)), (4, .int d)] [] := by
  intro t
  induction t with
  | zero =>
    intro i hi
    have e9 : i = 8 := by omega
    subst e9
    refine Z_iload 5 0 dX2_isPossibleWith_3 rfl rfl ?_
    refine Z_bipush 7 (nI 8) dX2_isPossibleWith_5 rfl rfl ?_
    refine Z_icmp_ge 10 25 dX2_isPossibleWith_7 rfl rfl (fun c7 => ?_) (fun c7 => absurd (nI_le (Nat.le_refl _) (by omega)) c7)
    refine Z_iconst 26 (nI 1) dX2_isPossibleWith_25 rfl rfl ?_
    refine Z_istore 28 [(5, _), (0, _), (1, _), (2, _), (3, _), (4, _)] dX2_isPossibleWith_26 rfl (Nat.le_of_ble_eq_true rfl) rfl ?_
    refine Z_iconst 29 (nI 0) dX2_isPossibleWith_28 rfl rfl ?_
    refine Z_istore 31 [(6, _), (5, _), (0, _), (1, _), (2, _), (3, _), (4, _)] dX2_isPossibleWith_29 rfl (Nat.le_of_ble_eq_true rfl) rfl ?_
    refine lX2_ipw n hk hd f o hf ho d hd2 8 0 (by omega) (set99 m 8) _ (set99_fr m 8) (fun q hq => ?_) (Or.inr ⟨rfl, Or.inl rfl⟩)
    have a2 : set99 m 8 57 q = nI 99 := by simp [set99, hq]
    have a3 : sk Y99 (eN m f o d) (n + 1) 0 q = 99 := if_pos hq
    rw [a2, a3]
    have a4 : (nI 99).toInt = 99 := rfl
    omega
  | succ t ih =>
    intro i hi
    have hlt : i < 8 := by omega
    refine Z_iload 5 0 dX2_isPossibleWith_3 rfl rfl ?_
    refine Z_bipush 7 (nI 8) dX2_isPossibleWith_5 rfl rfl ?_
    refine Z_icmp_ge 10 25 dX2_isPossibleWith_7 rfl rfl (fun c7 => absurd c7 (nI_ge hlt (by omega))) (fun c7 => ?_)
    refine Z_aload_n 11 1 dX2_isPossibleWith_10 rfl rfl ?_
    refine Z_getR 14 dX2_isPossibleWith_11 rfl fX2_9 (Nat.le_of_ble_eq_true rfl) rfl rfl ?_
    refine Z_iload 16 0 dX2_isPossibleWith_14 rfl rfl ?_
    refine Z_bipush 18 (nI 99) dX2_isPossibleWith_16 rfl rfl ?_
    refine Z_iasn 19 dX2_isPossibleWith_18 rfl (Nat.le_of_ble_eq_true rfl) rfl hlt (by decide) ?_
    rw [set99_step]
    refine Z_iinc 22 [(5, _), (0, _), (1, _), (2, _), (3, _), (4, _)] 0 _ dX2_isPossibleWith_19 rfl (Nat.le_of_ble_eq_true rfl) rfl (nI_1 _) rfl ?_
    refine Z_goto 3 dX2_isPossibleWith_22 rfl ?_
    exact ih (i + 1) (by omega)

set_option maxRecDepth 100000 in
set_option maxHeartbeats 4000000 in
theorem zX2_isPossibleWith {G : zG} {l : Launch} {h : Nat → Nat} {m : zM} (n : Nat) (hk : sOk m 1 n) (hd : dOk m n) (f o : Nat) (hf : f < 8) (ho : o < 8) (d : Int32) (hd2 : -60 ≤ d.toInt ∧ d.toInt ≤ 60) : zMet G l yX2_isPossibleWith mX2_isPossibleWith [.ref (G.1 + 56), .ref (G.1 + 1), .int (nI f), .int (nI o), .int d] (zw h m) (fun r w => ∃ m', w = zw h m' ∧ Fr 57 m m' ∧ ((r = some (.int (nI 1)) ∧ Fea (eN m f o d) (n + 1)) ∨ (r = some (.int (nI 0)) ∧ ¬ Fea (eN m f o d) (n + 1)))) 0 0 := by
  refine zMet_of [(0, .ref (G.1 + 56)), (1, .ref (G.1 + 1)), (2, .int (nI f)), (3, .int (nI o)), (4, .int d)] (by decide +kernel) rfl (Or.inl rfl) (Nat.le_of_ble_eq_true rfl) rfl ?_
  refine Z_iconst 1 (nI 0) dX2_isPossibleWith_0 rfl rfl ?_
  refine Z_istore 3 [(5, _), (0, _), (1, _), (2, _), (3, _), (4, _)] dX2_isPossibleWith_1 rfl (Nat.le_of_ble_eq_true rfl) rfl ?_
  refine Z_w (w' := zw h (set99 m 0)) (congrArg (zw h) (by funext q k; simp [set99])) ?_
  exact lX2_ipw1 n hk hd f o hf ho d hd2 8 0 (by omega)
end
