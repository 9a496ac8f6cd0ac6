section
-- ===== PART A: goes FIRST, ahead of the names: the tables' words, and 'selects' of the private methods out of them =====
/-- a private method of a class that the tables say can be made, by its rows of tables_1 -/
def lw_okq (q : MethodName × Nat) : Prop := (q.1.cls ≠ "java/lang/invoke/MethodHandle" ∧ q.1.cls ≠ "java/lang/invoke/VarHandle") ∧ Cond.instantiable q.1.cls q.2 ∈ tables_1 ∧ Cond.privateMethod q.1 ∈ tables_1 ∧ Cond.instanceMethod q.1 ∈ tables_1
theorem lw_p0 : lw_okq (⟨"DrumCrank", "remember", "()V"⟩, 8) := ⟨⟨by decide +kernel, by decide +kernel⟩, List.mem_of_getElem? (i := 12) (by decide +kernel), List.mem_of_getElem? (i := 148) (by decide +kernel), List.mem_of_getElem? (i := 149) (by decide +kernel)⟩
theorem lw_p1 : lw_okq (⟨"DrumCrank", "settled", "(I)I"⟩, 8) := ⟨⟨by decide +kernel, by decide +kernel⟩, List.mem_of_getElem? (i := 12) (by decide +kernel), List.mem_of_getElem? (i := 168) (by decide +kernel), List.mem_of_getElem? (i := 169) (by decide +kernel)⟩
theorem lw_p2 : lw_okq (⟨"DrumCrank", "counted", "(I)I"⟩, 8) := ⟨⟨by decide +kernel, by decide +kernel⟩, List.mem_of_getElem? (i := 12) (by decide +kernel), List.mem_of_getElem? (i := 172) (by decide +kernel), List.mem_of_getElem? (i := 173) (by decide +kernel)⟩
theorem lw_p3 : lw_okq (⟨"DrumCrank$Works", "turnOnce", "(II)Z"⟩, 8) := ⟨⟨by decide +kernel, by decide +kernel⟩, List.mem_of_getElem? (i := 20) (by decide +kernel), List.mem_of_getElem? (i := 261) (by decide +kernel), List.mem_of_getElem? (i := 262) (by decide +kernel)⟩
theorem lw_p4 : lw_okq (⟨"DrumCrank$Works", "given", "(I)I"⟩, 8) := ⟨⟨by decide +kernel, by decide +kernel⟩, List.mem_of_getElem? (i := 20) (by decide +kernel), List.mem_of_getElem? (i := 265) (by decide +kernel), List.mem_of_getElem? (i := 266) (by decide +kernel)⟩
theorem lw_p5 : lw_okq (⟨"DrumCrank$Works", "turnDownTillBell", "()Z"⟩, 8) := ⟨⟨by decide +kernel, by decide +kernel⟩, List.mem_of_getElem? (i := 20) (by decide +kernel), List.mem_of_getElem? (i := 311) (by decide +kernel), List.mem_of_getElem? (i := 312) (by decide +kernel)⟩
theorem lw_p6 : lw_okq (⟨"DrumCrank$Works", "wornTeeth", "()I"⟩, 8) := ⟨⟨by decide +kernel, by decide +kernel⟩, List.mem_of_getElem? (i := 20) (by decide +kernel), List.mem_of_getElem? (i := 358) (by decide +kernel), List.mem_of_getElem? (i := 359) (by decide +kernel)⟩
theorem lw_p7 : lw_okq (⟨"DrumCrank$Orders", "readOrder", "(LDrumCrank$Text;I)Z"⟩, 6) := ⟨⟨by decide +kernel, by decide +kernel⟩, List.mem_of_getElem? (i := 90) (by decide +kernel), List.mem_of_getElem? (i := 411) (by decide +kernel), List.mem_of_getElem? (i := 412) (by decide +kernel)⟩
theorem lw_p8 : lw_okq (⟨"DrumCrank$Orders", "skipBlanks", "(LDrumCrank$Text;)V"⟩, 6) := ⟨⟨by decide +kernel, by decide +kernel⟩, List.mem_of_getElem? (i := 90) (by decide +kernel), List.mem_of_getElem? (i := 415) (by decide +kernel), List.mem_of_getElem? (i := 416) (by decide +kernel)⟩
theorem lw_p9 : lw_okq (⟨"DrumCrank$Orders", "readNumber", "(LDrumCrank$Text;)Z"⟩, 6) := ⟨⟨by decide +kernel, by decide +kernel⟩, List.mem_of_getElem? (i := 90) (by decide +kernel), List.mem_of_getElem? (i := 426) (by decide +kernel), List.mem_of_getElem? (i := 427) (by decide +kernel)⟩
theorem lw_p10 : lw_okq (⟨"DrumCrank", "perform", "(III)I"⟩, 8) := ⟨⟨by decide +kernel, by decide +kernel⟩, List.mem_of_getElem? (i := 12) (by decide +kernel), List.mem_of_getElem? (i := 436) (by decide +kernel), List.mem_of_getElem? (i := 437) (by decide +kernel)⟩
theorem lw_p11 : lw_okq (⟨"DrumCrankModel", "refuses", "(I)I"⟩, 16) := ⟨⟨by decide +kernel, by decide +kernel⟩, List.mem_of_getElem? (i := 466) (by decide +kernel), List.mem_of_getElem? (i := 525) (by decide +kernel), List.mem_of_getElem? (i := 526) (by decide +kernel)⟩
theorem lw_p12 : lw_okq (⟨"DrumCrankModel", "laysAside", "()V"⟩, 16) := ⟨⟨by decide +kernel, by decide +kernel⟩, List.mem_of_getElem? (i := 466) (by decide +kernel), List.mem_of_getElem? (i := 533) (by decide +kernel), List.mem_of_getElem? (i := 534) (by decide +kernel)⟩
theorem lw_p13 : lw_okq (⟨"DrumCrankModel", "putDigit", "(II)I"⟩, 16) := ⟨⟨by decide +kernel, by decide +kernel⟩, List.mem_of_getElem? (i := 466) (by decide +kernel), List.mem_of_getElem? (i := 537) (by decide +kernel), List.mem_of_getElem? (i := 538) (by decide +kernel)⟩
theorem lw_p14 : lw_okq (⟨"DrumCrankModel", "change", "(II)I"⟩, 16) := ⟨⟨by decide +kernel, by decide +kernel⟩, List.mem_of_getElem? (i := 466) (by decide +kernel), List.mem_of_getElem? (i := 549) (by decide +kernel), List.mem_of_getElem? (i := 550) (by decide +kernel)⟩
theorem lw_p15 : lw_okq (⟨"DrumCrankModel", "finished", "(I)I"⟩, 16) := ⟨⟨by decide +kernel, by decide +kernel⟩, List.mem_of_getElem? (i := 466) (by decide +kernel), List.mem_of_getElem? (i := 553) (by decide +kernel), List.mem_of_getElem? (i := 554) (by decide +kernel)⟩
def lw_privs_1 : List (MethodName × Nat) := [(⟨"DrumCrank", "remember", "()V"⟩, 8), (⟨"DrumCrank", "settled", "(I)I"⟩, 8), (⟨"DrumCrank", "counted", "(I)I"⟩, 8), (⟨"DrumCrank$Works", "turnOnce", "(II)Z"⟩, 8), (⟨"DrumCrank$Works", "given", "(I)I"⟩, 8), (⟨"DrumCrank$Works", "turnDownTillBell", "()Z"⟩, 8), (⟨"DrumCrank$Works", "wornTeeth", "()I"⟩, 8), (⟨"DrumCrank$Orders", "readOrder", "(LDrumCrank$Text;I)Z"⟩, 6), (⟨"DrumCrank$Orders", "skipBlanks", "(LDrumCrank$Text;)V"⟩, 6), (⟨"DrumCrank$Orders", "readNumber", "(LDrumCrank$Text;)Z"⟩, 6), (⟨"DrumCrank", "perform", "(III)I"⟩, 8), (⟨"DrumCrankModel", "refuses", "(I)I"⟩, 16), (⟨"DrumCrankModel", "laysAside", "()V"⟩, 16), (⟨"DrumCrankModel", "putDigit", "(II)I"⟩, 16), (⟨"DrumCrankModel", "change", "(II)I"⟩, 16), (⟨"DrumCrankModel", "finished", "(I)I"⟩, 16)]
theorem lw_r1 : ∀ q ∈ lw_privs_1, lw_okq q := List.forall_mem_cons.mpr ⟨lw_p0, List.forall_mem_cons.mpr ⟨lw_p1, List.forall_mem_cons.mpr ⟨lw_p2, List.forall_mem_cons.mpr ⟨lw_p3, List.forall_mem_cons.mpr ⟨lw_p4, List.forall_mem_cons.mpr ⟨lw_p5, List.forall_mem_cons.mpr ⟨lw_p6, List.forall_mem_cons.mpr ⟨lw_p7, List.forall_mem_cons.mpr ⟨lw_p8, List.forall_mem_cons.mpr ⟨lw_p9, List.forall_mem_cons.mpr ⟨lw_p10, List.forall_mem_cons.mpr ⟨lw_p11, List.forall_mem_cons.mpr ⟨lw_p12, List.forall_mem_cons.mpr ⟨lw_p13, List.forall_mem_cons.mpr ⟨lw_p14, List.forall_mem_cons.mpr ⟨lw_p15, fun _ h => absurd h List.not_mem_nil⟩⟩⟩⟩⟩⟩⟩⟩⟩⟩⟩⟩⟩⟩⟩⟩
theorem lw_p16 : lw_okq (⟨"DrumCrankModel", "remembers", "()V"⟩, 16) := ⟨⟨by decide +kernel, by decide +kernel⟩, List.mem_of_getElem? (i := 466) (by decide +kernel), List.mem_of_getElem? (i := 557) (by decide +kernel), List.mem_of_getElem? (i := 558) (by decide +kernel)⟩
theorem lw_p17 : lw_okq (⟨"DrumCrankModel", "putInput", "(I)I"⟩, 16) := ⟨⟨by decide +kernel, by decide +kernel⟩, List.mem_of_getElem? (i := 466) (by decide +kernel), List.mem_of_getElem? (i := 565) (by decide +kernel), List.mem_of_getElem? (i := 566) (by decide +kernel)⟩
theorem lw_p18 : lw_okq (⟨"DrumCrankModel", "putShift", "(I)I"⟩, 16) := ⟨⟨by decide +kernel, by decide +kernel⟩, List.mem_of_getElem? (i := 466) (by decide +kernel), List.mem_of_getElem? (i := 577) (by decide +kernel), List.mem_of_getElem? (i := 578) (by decide +kernel)⟩
theorem lw_p19 : lw_okq (⟨"DrumCrankModel", "putReach", "(I)I"⟩, 16) := ⟨⟨by decide +kernel, by decide +kernel⟩, List.mem_of_getElem? (i := 466) (by decide +kernel), List.mem_of_getElem? (i := 586) (by decide +kernel), List.mem_of_getElem? (i := 587) (by decide +kernel)⟩
theorem lw_p20 : lw_okq (⟨"DrumCrankModel", "putWorn", "(II)I"⟩, 16) := ⟨⟨by decide +kernel, by decide +kernel⟩, List.mem_of_getElem? (i := 466) (by decide +kernel), List.mem_of_getElem? (i := 595) (by decide +kernel), List.mem_of_getElem? (i := 596) (by decide +kernel)⟩
theorem lw_p21 : lw_okq (⟨"DrumCrankModel", "clearsAll", "()I"⟩, 16) := ⟨⟨by decide +kernel, by decide +kernel⟩, List.mem_of_getElem? (i := 466) (by decide +kernel), List.mem_of_getElem? (i := 606) (by decide +kernel), List.mem_of_getElem? (i := 607) (by decide +kernel)⟩
theorem lw_p22 : lw_okq (⟨"DrumCrankModel", "clearsCounters", "()V"⟩, 16) := ⟨⟨by decide +kernel, by decide +kernel⟩, List.mem_of_getElem? (i := 466) (by decide +kernel), List.mem_of_getElem? (i := 610) (by decide +kernel), List.mem_of_getElem? (i := 611) (by decide +kernel)⟩
theorem lw_p23 : lw_okq (⟨"DrumCrankModel", "putWheels", "(J)I"⟩, 16) := ⟨⟨by decide +kernel, by decide +kernel⟩, List.mem_of_getElem? (i := 466) (by decide +kernel), List.mem_of_getElem? (i := 618) (by decide +kernel), List.mem_of_getElem? (i := 619) (by decide +kernel)⟩
theorem lw_p24 : lw_okq (⟨"DrumCrankModel", "doesTurns", "(II)I"⟩, 16) := ⟨⟨by decide +kernel, by decide +kernel⟩, List.mem_of_getElem? (i := 466) (by decide +kernel), List.mem_of_getElem? (i := 628) (by decide +kernel), List.mem_of_getElem? (i := 629) (by decide +kernel)⟩
theorem lw_p25 : lw_okq (⟨"DrumCrankModel", "laysGives", "()V"⟩, 16) := ⟨⟨by decide +kernel, by decide +kernel⟩, List.mem_of_getElem? (i := 466) (by decide +kernel), List.mem_of_getElem? (i := 633) (by decide +kernel), List.mem_of_getElem? (i := 634) (by decide +kernel)⟩
theorem lw_p26 : lw_okq (⟨"DrumCrankModel", "turnsOnce", "(II)Z"⟩, 16) := ⟨⟨by decide +kernel, by decide +kernel⟩, List.mem_of_getElem? (i := 466) (by decide +kernel), List.mem_of_getElem? (i := 640) (by decide +kernel), List.mem_of_getElem? (i := 641) (by decide +kernel)⟩
theorem lw_p27 : lw_okq (⟨"DrumCrankModel", "turnsBy", "([IIII)Z"⟩, 16) := ⟨⟨by decide +kernel, by decide +kernel⟩, List.mem_of_getElem? (i := 466) (by decide +kernel), List.mem_of_getElem? (i := 644) (by decide +kernel), List.mem_of_getElem? (i := 645) (by decide +kernel)⟩
theorem lw_p28 : lw_okq (⟨"DrumCrankModel", "doesTimes", "(II)I"⟩, 16) := ⟨⟨by decide +kernel, by decide +kernel⟩, List.mem_of_getElem? (i := 466) (by decide +kernel), List.mem_of_getElem? (i := 656) (by decide +kernel), List.mem_of_getElem? (i := 657) (by decide +kernel)⟩
theorem lw_p29 : lw_okq (⟨"DrumCrankModel", "laysPlan", "(II)I"⟩, 16) := ⟨⟨by decide +kernel, by decide +kernel⟩, List.mem_of_getElem? (i := 466) (by decide +kernel), List.mem_of_getElem? (i := 660) (by decide +kernel), List.mem_of_getElem? (i := 661) (by decide +kernel)⟩
theorem lw_p30 : lw_okq (⟨"DrumCrankModel", "doesDivide", "()I"⟩, 16) := ⟨⟨by decide +kernel, by decide +kernel⟩, List.mem_of_getElem? (i := 466) (by decide +kernel), List.mem_of_getElem? (i := 668) (by decide +kernel), List.mem_of_getElem? (i := 669) (by decide +kernel)⟩
theorem lw_p31 : lw_okq (⟨"DrumCrankModel", "downs0", "()Z"⟩, 16) := ⟨⟨by decide +kernel, by decide +kernel⟩, List.mem_of_getElem? (i := 466) (by decide +kernel), List.mem_of_getElem? (i := 672) (by decide +kernel), List.mem_of_getElem? (i := 673) (by decide +kernel)⟩
def lw_privs_2 : List (MethodName × Nat) := [(⟨"DrumCrankModel", "remembers", "()V"⟩, 16), (⟨"DrumCrankModel", "putInput", "(I)I"⟩, 16), (⟨"DrumCrankModel", "putShift", "(I)I"⟩, 16), (⟨"DrumCrankModel", "putReach", "(I)I"⟩, 16), (⟨"DrumCrankModel", "putWorn", "(II)I"⟩, 16), (⟨"DrumCrankModel", "clearsAll", "()I"⟩, 16), (⟨"DrumCrankModel", "clearsCounters", "()V"⟩, 16), (⟨"DrumCrankModel", "putWheels", "(J)I"⟩, 16), (⟨"DrumCrankModel", "doesTurns", "(II)I"⟩, 16), (⟨"DrumCrankModel", "laysGives", "()V"⟩, 16), (⟨"DrumCrankModel", "turnsOnce", "(II)Z"⟩, 16), (⟨"DrumCrankModel", "turnsBy", "([IIII)Z"⟩, 16), (⟨"DrumCrankModel", "doesTimes", "(II)I"⟩, 16), (⟨"DrumCrankModel", "laysPlan", "(II)I"⟩, 16), (⟨"DrumCrankModel", "doesDivide", "()I"⟩, 16), (⟨"DrumCrankModel", "downs0", "()Z"⟩, 16)]
theorem lw_r2 : ∀ q ∈ lw_privs_2, lw_okq q := List.forall_mem_cons.mpr ⟨lw_p16, List.forall_mem_cons.mpr ⟨lw_p17, List.forall_mem_cons.mpr ⟨lw_p18, List.forall_mem_cons.mpr ⟨lw_p19, List.forall_mem_cons.mpr ⟨lw_p20, List.forall_mem_cons.mpr ⟨lw_p21, List.forall_mem_cons.mpr ⟨lw_p22, List.forall_mem_cons.mpr ⟨lw_p23, List.forall_mem_cons.mpr ⟨lw_p24, List.forall_mem_cons.mpr ⟨lw_p25, List.forall_mem_cons.mpr ⟨lw_p26, List.forall_mem_cons.mpr ⟨lw_p27, List.forall_mem_cons.mpr ⟨lw_p28, List.forall_mem_cons.mpr ⟨lw_p29, List.forall_mem_cons.mpr ⟨lw_p30, List.forall_mem_cons.mpr ⟨lw_p31, fun _ h => absurd h List.not_mem_nil⟩⟩⟩⟩⟩⟩⟩⟩⟩⟩⟩⟩⟩⟩⟩⟩
theorem lw_p32 : lw_okq (⟨"DrumCrankModel", "takesBack", "()V"⟩, 16) := ⟨⟨by decide +kernel, by decide +kernel⟩, List.mem_of_getElem? (i := 466) (by decide +kernel), List.mem_of_getElem? (i := 676) (by decide +kernel), List.mem_of_getElem? (i := 677) (by decide +kernel)⟩
theorem lw_p33 : lw_okq (⟨"DrumCrankModel", "drumTold", "(II)I"⟩, 16) := ⟨⟨by decide +kernel, by decide +kernel⟩, List.mem_of_getElem? (i := 466) (by decide +kernel), List.mem_of_getElem? (i := 689) (by decide +kernel), List.mem_of_getElem? (i := 690) (by decide +kernel)⟩
theorem lw_p34 : lw_okq (⟨"DrumCrankModel", "countTold", "(I)I"⟩, 16) := ⟨⟨by decide +kernel, by decide +kernel⟩, List.mem_of_getElem? (i := 466) (by decide +kernel), List.mem_of_getElem? (i := 714) (by decide +kernel), List.mem_of_getElem? (i := 715) (by decide +kernel)⟩
theorem lw_p35 : lw_okq (⟨"DrumCrankModel", "trialOf", "(I)J"⟩, 16) := ⟨⟨by decide +kernel, by decide +kernel⟩, List.mem_of_getElem? (i := 466) (by decide +kernel), List.mem_of_getElem? (i := 722) (by decide +kernel), List.mem_of_getElem? (i := 723) (by decide +kernel)⟩
theorem lw_p36 : lw_okq (⟨"DrumCrankModel", "tries", "(I)J"⟩, 16) := ⟨⟨by decide +kernel, by decide +kernel⟩, List.mem_of_getElem? (i := 466) (by decide +kernel), List.mem_of_getElem? (i := 726) (by decide +kernel), List.mem_of_getElem? (i := 727) (by decide +kernel)⟩
theorem lw_p37 : lw_okq (⟨"DrumCrankModel", "explained", "(JII)I"⟩, 16) := ⟨⟨by decide +kernel, by decide +kernel⟩, List.mem_of_getElem? (i := 466) (by decide +kernel), List.mem_of_getElem? (i := 734) (by decide +kernel), List.mem_of_getElem? (i := 735) (by decide +kernel)⟩
theorem lw_p38 : lw_okq (⟨"DrumCrankModel", "isRead", "()Z"⟩, 16) := ⟨⟨by decide +kernel, by decide +kernel⟩, List.mem_of_getElem? (i := 466) (by decide +kernel), List.mem_of_getElem? (i := 751) (by decide +kernel), List.mem_of_getElem? (i := 752) (by decide +kernel)⟩
theorem lw_p39 : lw_okq (⟨"DrumCrankModel", "blanks", "()V"⟩, 16) := ⟨⟨by decide +kernel, by decide +kernel⟩, List.mem_of_getElem? (i := 466) (by decide +kernel), List.mem_of_getElem? (i := 755) (by decide +kernel), List.mem_of_getElem? (i := 756) (by decide +kernel)⟩
theorem lw_p40 : lw_okq (⟨"DrumCrankModel", "isAt", "(II)Z"⟩, 16) := ⟨⟨by decide +kernel, by decide +kernel⟩, List.mem_of_getElem? (i := 466) (by decide +kernel), List.mem_of_getElem? (i := 759) (by decide +kernel), List.mem_of_getElem? (i := 760) (by decide +kernel)⟩
theorem lw_p41 : lw_okq (⟨"DrumCrankModel", "takesOrder", "()Z"⟩, 16) := ⟨⟨by decide +kernel, by decide +kernel⟩, List.mem_of_getElem? (i := 466) (by decide +kernel), List.mem_of_getElem? (i := 763) (by decide +kernel), List.mem_of_getElem? (i := 764) (by decide +kernel)⟩
theorem lw_p42 : lw_okq (⟨"DrumCrankModel", "fails", "()Z"⟩, 16) := ⟨⟨by decide +kernel, by decide +kernel⟩, List.mem_of_getElem? (i := 466) (by decide +kernel), List.mem_of_getElem? (i := 770) (by decide +kernel), List.mem_of_getElem? (i := 771) (by decide +kernel)⟩
theorem lw_p43 : lw_okq (⟨"DrumCrankModel", "takesNumber", "(I)Z"⟩, 16) := ⟨⟨by decide +kernel, by decide +kernel⟩, List.mem_of_getElem? (i := 466) (by decide +kernel), List.mem_of_getElem? (i := 774) (by decide +kernel), List.mem_of_getElem? (i := 775) (by decide +kernel)⟩
theorem lw_p44 : lw_okq (⟨"DrumCrankModel", "doneOne", "(I)I"⟩, 16) := ⟨⟨by decide +kernel, by decide +kernel⟩, List.mem_of_getElem? (i := 466) (by decide +kernel), List.mem_of_getElem? (i := 778) (by decide +kernel), List.mem_of_getElem? (i := 779) (by decide +kernel)⟩
theorem lw_p45 : lw_okq (⟨"DrumCrankModel", "toldAt", "(I)I"⟩, 16) := ⟨⟨by decide +kernel, by decide +kernel⟩, List.mem_of_getElem? (i := 466) (by decide +kernel), List.mem_of_getElem? (i := 787) (by decide +kernel), List.mem_of_getElem? (i := 788) (by decide +kernel)⟩
theorem lw_p46 : lw_okq (⟨"DrumCrankModel", "mix", "(J)V"⟩, 16) := ⟨⟨by decide +kernel, by decide +kernel⟩, List.mem_of_getElem? (i := 466) (by decide +kernel), List.mem_of_getElem? (i := 796) (by decide +kernel), List.mem_of_getElem? (i := 797) (by decide +kernel)⟩
def lw_privs_3 : List (MethodName × Nat) := [(⟨"DrumCrankModel", "takesBack", "()V"⟩, 16), (⟨"DrumCrankModel", "drumTold", "(II)I"⟩, 16), (⟨"DrumCrankModel", "countTold", "(I)I"⟩, 16), (⟨"DrumCrankModel", "trialOf", "(I)J"⟩, 16), (⟨"DrumCrankModel", "tries", "(I)J"⟩, 16), (⟨"DrumCrankModel", "explained", "(JII)I"⟩, 16), (⟨"DrumCrankModel", "isRead", "()Z"⟩, 16), (⟨"DrumCrankModel", "blanks", "()V"⟩, 16), (⟨"DrumCrankModel", "isAt", "(II)Z"⟩, 16), (⟨"DrumCrankModel", "takesOrder", "()Z"⟩, 16), (⟨"DrumCrankModel", "fails", "()Z"⟩, 16), (⟨"DrumCrankModel", "takesNumber", "(I)Z"⟩, 16), (⟨"DrumCrankModel", "doneOne", "(I)I"⟩, 16), (⟨"DrumCrankModel", "toldAt", "(I)I"⟩, 16), (⟨"DrumCrankModel", "mix", "(J)V"⟩, 16)]
theorem lw_r3 : ∀ q ∈ lw_privs_3, lw_okq q := List.forall_mem_cons.mpr ⟨lw_p32, List.forall_mem_cons.mpr ⟨lw_p33, List.forall_mem_cons.mpr ⟨lw_p34, List.forall_mem_cons.mpr ⟨lw_p35, List.forall_mem_cons.mpr ⟨lw_p36, List.forall_mem_cons.mpr ⟨lw_p37, List.forall_mem_cons.mpr ⟨lw_p38, List.forall_mem_cons.mpr ⟨lw_p39, List.forall_mem_cons.mpr ⟨lw_p40, List.forall_mem_cons.mpr ⟨lw_p41, List.forall_mem_cons.mpr ⟨lw_p42, List.forall_mem_cons.mpr ⟨lw_p43, List.forall_mem_cons.mpr ⟨lw_p44, List.forall_mem_cons.mpr ⟨lw_p45, List.forall_mem_cons.mpr ⟨lw_p46, fun _ h => absurd h List.not_mem_nil⟩⟩⟩⟩⟩⟩⟩⟩⟩⟩⟩⟩⟩⟩⟩
def lw_privs : List (MethodName × Nat) := lw_privs_1 ++ (lw_privs_2 ++ (lw_privs_3))
def lw_tbl : List Cond := k2_sels lw_privs ++ tables_1
theorem lw_privs_ok : ∀ q ∈ lw_privs, lw_okq q := by
  show ∀ q ∈ lw_privs_1 ++ (lw_privs_2 ++ (lw_privs_3)), lw_okq q
  exact List.forall_mem_append.mpr ⟨lw_r1, List.forall_mem_append.mpr ⟨lw_r2, lw_r3⟩⟩
def RX0 : String := "DrumCrank$Orders"
def TX0 : u_T := fun k => match k with
  | 0 => ("DrumCrank$Orders", "letters", "[I", true)
  | 1 => ("DrumCrank$Orders", "firsts", "[I", true)
  | 2 => ("DrumCrank$Orders", "seconds", "[I", true)
  | 3 => ("DrumCrank$Orders", "size", "I", false)
  | 4 => ("DrumCrank$Orders", "place", "I", false)
  | _ => ("DrumCrank$Orders", "lastNumber", "I", false)
def tyX0 : Nat → FieldType := fun k => match k with
  | 0 => .array .int
  | 1 => .array .int
  | 2 => .array .int
  | 3 => .int
  | 4 => .int
  | _ => .int
theorem nmX0 : ∀ a, a < 6 → ∀ b, b < 6 → a ≠ b → (TX0 a).2.1 ≠ (TX0 b).2.1 := by decide +kernel
theorem tyX0_ok : ∀ k, k < 6 → parseFieldDescriptor (TX0 k).2.2.1 = some (tyX0 k) := by decide +kernel
abbrev cX0_init : ByteArray := prog_2_method_1_code
def yX0_init : MethodName := ⟨RX0, "<init>", "()V"⟩
abbrev cX0_read : ByteArray := prog_2_method_2_code
def yX0_read : MethodName := ⟨RX0, "read", "(LDrumCrank$Text;)I"⟩
abbrev cX0_readOrder : ByteArray := prog_2_method_3_code
def yX0_readOrder : MethodName := ⟨RX0, "readOrder", "(LDrumCrank$Text;I)Z"⟩
abbrev cX0_readNumber : ByteArray := prog_2_method_4_code
def yX0_readNumber : MethodName := ⟨RX0, "readNumber", "(LDrumCrank$Text;)Z"⟩
abbrev cX0_skipBlanks : ByteArray := prog_2_method_5_code
def yX0_skipBlanks : MethodName := ⟨RX0, "skipBlanks", "(LDrumCrank$Text;)V"⟩
abbrev cX0_isFigure : ByteArray := prog_2_method_6_code
def yX0_isFigure : MethodName := ⟨RX0, "isFigure", "(I)Z"⟩
abbrev cX0_numbersOf : ByteArray := prog_2_method_7_code
def yX0_numbersOf : MethodName := ⟨RX0, "numbersOf", "(I)I"⟩
def RX1 : String := "DrumCrank$States"
def TX1 : u_T := fun k => match k with
  | 0 => ("DrumCrank$States", "ring", "[LDrumCrank$Works;", true)
  | 1 => ("DrumCrank$States", "next", "I", false)
  | _ => ("DrumCrank$States", "size", "I", false)
def tyX1 : Nat → FieldType := fun k => match k with
  | 0 => .array (.object "DrumCrank$Works")
  | 1 => .int
  | _ => .int
theorem nmX1 : ∀ a, a < 3 → ∀ b, b < 3 → a ≠ b → (TX1 a).2.1 ≠ (TX1 b).2.1 := by decide +kernel
theorem tyX1_ok : ∀ k, k < 3 → parseFieldDescriptor (TX1 k).2.2.1 = some (tyX1 k) := by decide +kernel
abbrev cX1_init : ByteArray := prog_3_method_1_code
def yX1_init : MethodName := ⟨RX1, "<init>", "()V"⟩
abbrev cX1_keep : ByteArray := prog_3_method_2_code
def yX1_keep : MethodName := ⟨RX1, "keep", "(LDrumCrank$Works;)V"⟩
abbrev cX1_giveBackTo : ByteArray := prog_3_method_3_code
def yX1_giveBackTo : MethodName := ⟨RX1, "giveBackTo", "(LDrumCrank$Works;)V"⟩
def RX2 : String := "DrumCrank$Text"
def TX2 : u_T := fun k => match k with
  | 0 => ("DrumCrank$Text", "bytes", "[B", true)
  | _ => ("DrumCrank$Text", "length", "I", false)
def tyX2 : Nat → FieldType := fun k => match k with
  | 0 => .array .byte
  | _ => .int
theorem nmX2 : ∀ a, a < 2 → ∀ b, b < 2 → a ≠ b → (TX2 a).2.1 ≠ (TX2 b).2.1 := by decide +kernel
theorem tyX2_ok : ∀ k, k < 2 → parseFieldDescriptor (TX2 k).2.2.1 = some (tyX2 k) := by decide +kernel
abbrev cX2_init : ByteArray := prog_4_method_1_code
def yX2_init : MethodName := ⟨RX2, "<init>", "()V"⟩
abbrev cX2_add : ByteArray := prog_4_method_2_code
def yX2_add : MethodName := ⟨RX2, "add", "(I)I"⟩
abbrev cX2_empty : ByteArray := prog_4_method_3_code
def yX2_empty : MethodName := ⟨RX2, "empty", "()I"⟩
abbrev cX2_at : ByteArray := prog_4_method_4_code
def yX2_at : MethodName := ⟨RX2, "at", "(I)I"⟩
def RX3 : String := "DrumCrank$Works"
def TX3 : u_T := fun k => match k with
  | 0 => ("DrumCrank$Works", "digits", "[I", true)
  | 1 => ("DrumCrank$Works", "worn", "[I", true)
  | 2 => ("DrumCrank$Works", "wheels", "[I", true)
  | 3 => ("DrumCrank$Works", "counters", "[I", true)
  | 4 => ("DrumCrank$Works", "shift", "I", false)
  | 5 => ("DrumCrank$Works", "reach", "I", false)
  | 6 => ("DrumCrank$Works", "bell", "I", false)
  | _ => ("DrumCrank$Works", "turned", "I", false)
def tyX3 : Nat → FieldType := fun k => match k with
  | 0 => .array .int
  | 1 => .array .int
  | 2 => .array .int
  | 3 => .array .int
  | 4 => .int
  | 5 => .int
  | 6 => .int
  | _ => .int
theorem nmX3 : ∀ a, a < 8 → ∀ b, b < 8 → a ≠ b → (TX3 a).2.1 ≠ (TX3 b).2.1 := by decide +kernel
theorem tyX3_ok : ∀ k, k < 8 → parseFieldDescriptor (TX3 k).2.2.1 = some (tyX3 k) := by decide +kernel
abbrev cX3_init : ByteArray := prog_5_method_1_code
def yX3_init : MethodName := ⟨RX3, "<init>", "()V"⟩
abbrev cX3_copyFrom : ByteArray := prog_5_method_2_code
def yX3_copyFrom : MethodName := ⟨RX3, "copyFrom", "(LDrumCrank$Works;)V"⟩
abbrev cX3_setDrum : ByteArray := prog_5_method_3_code
def yX3_setDrum : MethodName := ⟨RX3, "setDrum", "(II)I"⟩
abbrev cX3_setDrums : ByteArray := prog_5_method_4_code
def yX3_setDrums : MethodName := ⟨RX3, "setDrums", "(I)I"⟩
abbrev cX3_setShift : ByteArray := prog_5_method_5_code
def yX3_setShift : MethodName := ⟨RX3, "setShift", "(I)I"⟩
abbrev cX3_setReach : ByteArray := prog_5_method_6_code
def yX3_setReach : MethodName := ⟨RX3, "setReach", "(I)I"⟩
abbrev cX3_wearTooth : ByteArray := prog_5_method_7_code
def yX3_wearTooth : MethodName := ⟨RX3, "wearTooth", "(II)I"⟩
abbrev cX3_clearAll : ByteArray := prog_5_method_8_code
def yX3_clearAll : MethodName := ⟨RX3, "clearAll", "()I"⟩
abbrev cX3_layWheels : ByteArray := prog_5_method_9_code
def yX3_layWheels : MethodName := ⟨RX3, "layWheels", "(J)I"⟩
abbrev cX3_turnOften : ByteArray := prog_5_method_10_code
def yX3_turnOften : MethodName := ⟨RX3, "turnOften", "(II)I"⟩
abbrev cX3_multiply : ByteArray := prog_5_method_11_code
def yX3_multiply : MethodName := ⟨RX3, "multiply", "(II)I"⟩
abbrev cX3_divide : ByteArray := prog_5_method_12_code
def yX3_divide : MethodName := ⟨RX3, "divide", "()I"⟩
abbrev cX3_turnDownTillBell : ByteArray := prog_5_method_13_code
def yX3_turnDownTillBell : MethodName := ⟨RX3, "turnDownTillBell", "()Z"⟩
abbrev cX3_turnOnce : ByteArray := prog_5_method_14_code
def yX3_turnOnce : MethodName := ⟨RX3, "turnOnce", "(II)Z"⟩
abbrev cX3_given : ByteArray := prog_5_method_15_code
def yX3_given : MethodName := ⟨RX3, "given", "(I)I"⟩
abbrev cX3_numberGiven : ByteArray := prog_5_method_16_code
def yX3_numberGiven : MethodName := ⟨RX3, "numberGiven", "()I"⟩
abbrev cX3_tellDrum : ByteArray := prog_5_method_17_code
def yX3_tellDrum : MethodName := ⟨RX3, "tellDrum", "(II)I"⟩
abbrev cX3_tellCount : ByteArray := prog_5_method_18_code
def yX3_tellCount : MethodName := ⟨RX3, "tellCount", "(I)I"⟩
abbrev cX3_wornTeeth : ByteArray := prog_5_method_19_code
def yX3_wornTeeth : MethodName := ⟨RX3, "wornTeeth", "()I"⟩
abbrev cX3_tried : ByteArray := prog_5_method_20_code
def yX3_tried : MethodName := ⟨RX3, "tried", "(II)J"⟩
abbrev cX3_explain : ByteArray := prog_5_method_21_code
def yX3_explain : MethodName := ⟨RX3, "explain", "(JII)I"⟩
def RX4 : String := "DrumCrank"
def TX4 : u_T := fun k => match k with
  | 0 => ("DrumCrank", "now", "LDrumCrank$Works;", true)
  | 1 => ("DrumCrank", "ahead", "LDrumCrank$Works;", true)
  | 2 => ("DrumCrank", "states", "LDrumCrank$States;", true)
  | 3 => ("DrumCrank", "text", "LDrumCrank$Text;", true)
  | 4 => ("DrumCrank", "orders", "LDrumCrank$Orders;", true)
  | 5 => ("DrumCrank", "timesBad", "I", false)
  | 6 => ("DrumCrank", "timesNo", "I", false)
  | _ => ("DrumCrank", "timesFull", "I", false)
def tyX4 : Nat → FieldType := fun k => match k with
  | 0 => .object "DrumCrank$Works"
  | 1 => .object "DrumCrank$Works"
  | 2 => .object "DrumCrank$States"
  | 3 => .object "DrumCrank$Text"
  | 4 => .object "DrumCrank$Orders"
  | 5 => .int
  | 6 => .int
  | _ => .int
theorem nmX4 : ∀ a, a < 8 → ∀ b, b < 8 → a ≠ b → (TX4 a).2.1 ≠ (TX4 b).2.1 := by decide +kernel
theorem tyX4_ok : ∀ k, k < 8 → parseFieldDescriptor (TX4 k).2.2.1 = some (tyX4 k) := by decide +kernel
abbrev cX4_init : ByteArray := prog_1_method_1_code
def yX4_init : MethodName := ⟨RX4, "<init>", "()V"⟩
abbrev cX4_sets : ByteArray := prog_1_method_2_code
def yX4_sets : MethodName := ⟨RX4, "sets", "(II)I"⟩
abbrev cX4_input : ByteArray := prog_1_method_3_code
def yX4_input : MethodName := ⟨RX4, "input", "(I)I"⟩
abbrev cX4_shifts : ByteArray := prog_1_method_4_code
def yX4_shifts : MethodName := ⟨RX4, "shifts", "(I)I"⟩
abbrev cX4_reaches : ByteArray := prog_1_method_5_code
def yX4_reaches : MethodName := ⟨RX4, "reaches", "(I)I"⟩
abbrev cX4_wears : ByteArray := prog_1_method_6_code
def yX4_wears : MethodName := ⟨RX4, "wears", "(II)I"⟩
abbrev cX4_clears : ByteArray := prog_1_method_7_code
def yX4_clears : MethodName := ⟨RX4, "clears", "()I"⟩
abbrev cX4_lays : ByteArray := prog_1_method_8_code
def yX4_lays : MethodName := ⟨RX4, "lays", "(J)I"⟩
abbrev cX4_ups : ByteArray := prog_1_method_9_code
def yX4_ups : MethodName := ⟨RX4, "ups", "(I)I"⟩
abbrev cX4_downs : ByteArray := prog_1_method_10_code
def yX4_downs : MethodName := ⟨RX4, "downs", "(I)I"⟩
abbrev cX4_times : ByteArray := prog_1_method_11_code
def yX4_times : MethodName := ⟨RX4, "times", "(II)I"⟩
abbrev cX4_divides : ByteArray := prog_1_method_12_code
def yX4_divides : MethodName := ⟨RX4, "divides", "()I"⟩
abbrev cX4_turns : ByteArray := prog_1_method_13_code
def yX4_turns : MethodName := ⟨RX4, "turns", "(II)I"⟩
abbrev cX4_drum : ByteArray := prog_1_method_14_code
def yX4_drum : MethodName := ⟨RX4, "drum", "(II)I"⟩
abbrev cX4_wheel : ByteArray := prog_1_method_15_code
def yX4_wheel : MethodName := ⟨RX4, "wheel", "(I)I"⟩
abbrev cX4_value : ByteArray := prog_1_method_16_code
def yX4_value : MethodName := ⟨RX4, "value", "()J"⟩
abbrev cX4_counter : ByteArray := prog_1_method_17_code
def yX4_counter : MethodName := ⟨RX4, "counter", "(I)I"⟩
abbrev cX4_count : ByteArray := prog_1_method_18_code
def yX4_count : MethodName := ⟨RX4, "count", "(I)I"⟩
abbrev cX4_trial : ByteArray := prog_1_method_19_code
def yX4_trial : MethodName := ⟨RX4, "trial", "(I)J"⟩
abbrev cX4_explains : ByteArray := prog_1_method_20_code
def yX4_explains : MethodName := ⟨RX4, "explains", "(JII)I"⟩
abbrev cX4_type : ByteArray := prog_1_method_21_code
def yX4_type : MethodName := ⟨RX4, "type", "(I)I"⟩
abbrev cX4_wipes : ByteArray := prog_1_method_22_code
def yX4_wipes : MethodName := ⟨RX4, "wipes", "()I"⟩
abbrev cX4_does : ByteArray := prog_1_method_23_code
def yX4_does : MethodName := ⟨RX4, "does", "()I"⟩
abbrev cX4_back : ByteArray := prog_1_method_24_code
def yX4_back : MethodName := ⟨RX4, "back", "()I"⟩
abbrev cX4_told : ByteArray := prog_1_method_25_code
def yX4_told : MethodName := ⟨RX4, "told", "(I)I"⟩
abbrev cX4_digest : ByteArray := prog_1_method_26_code
def yX4_digest : MethodName := ⟨RX4, "digest", "()J"⟩
abbrev cX4_remember : ByteArray := prog_1_method_27_code
def yX4_remember : MethodName := ⟨RX4, "remember", "()V"⟩
abbrev cX4_settled : ByteArray := prog_1_method_28_code
def yX4_settled : MethodName := ⟨RX4, "settled", "(I)I"⟩
abbrev cX4_counted : ByteArray := prog_1_method_29_code
def yX4_counted : MethodName := ⟨RX4, "counted", "(I)I"⟩
abbrev cX4_perform : ByteArray := prog_1_method_30_code
def yX4_perform : MethodName := ⟨RX4, "perform", "(III)I"⟩
abbrev cX4_within : ByteArray := prog_1_method_31_code
def yX4_within : MethodName := ⟨RX4, "within", "(JJJ)Z"⟩
abbrev cX4_number : ByteArray := prog_1_method_32_code
def yX4_number : MethodName := ⟨RX4, "number", "([I)J"⟩
abbrev cX4_putFigures : ByteArray := prog_1_method_33_code
def yX4_putFigures : MethodName := ⟨RX4, "putFigures", "([IJ)I"⟩
abbrev cX4_canMultiply : ByteArray := prog_1_method_34_code
def yX4_canMultiply : MethodName := ⟨RX4, "canMultiply", "(II)Z"⟩
abbrev cX4_figuresToMultiply : ByteArray := prog_1_method_35_code
def yX4_figuresToMultiply : MethodName := ⟨RX4, "figuresToMultiply", "(I)I"⟩
abbrev cX4_turnsForFigure : ByteArray := prog_1_method_36_code
def yX4_turnsForFigure : MethodName := ⟨RX4, "turnsForFigure", "(II)I"⟩
abbrev cX4_leftBehindFigure : ByteArray := prog_1_method_37_code
def yX4_leftBehindFigure : MethodName := ⟨RX4, "leftBehindFigure", "(II)I"⟩
abbrev cX4_turnsToMultiply : ByteArray := prog_1_method_38_code
def yX4_turnsToMultiply : MethodName := ⟨RX4, "turnsToMultiply", "(II)I"⟩
def RX5 : String := "DrumCrankModel"
def TX5 : u_T := fun k => match k with
  | 0 => ("DrumCrankModel", "now", "[I", true)
  | 1 => ("DrumCrankModel", "aside", "[I", true)
  | 2 => ("DrumCrankModel", "past", "[I", true)
  | 3 => ("DrumCrankModel", "states", "I", false)
  | 4 => ("DrumCrankModel", "refusals", "[I", true)
  | 5 => ("DrumCrankModel", "text", "[I", true)
  | 6 => ("DrumCrankModel", "bytes", "I", false)
  | 7 => ("DrumCrankModel", "gives", "[I", true)
  | 8 => ("DrumCrankModel", "tried", "[I", true)
  | 9 => ("DrumCrankModel", "plan", "[I", true)
  | 10 => ("DrumCrankModel", "letters", "[I", true)
  | 11 => ("DrumCrankModel", "numbers", "[I", true)
  | 12 => ("DrumCrankModel", "orders", "I", false)
  | 13 => ("DrumCrankModel", "spot", "I", false)
  | 14 => ("DrumCrankModel", "wrongAt", "I", false)
  | _ => ("DrumCrankModel", "hash", "J", false)
def tyX5 : Nat → FieldType := fun k => match k with
  | 0 => .array .int
  | 1 => .array .int
  | 2 => .array .int
  | 3 => .int
  | 4 => .array .int
  | 5 => .array .int
  | 6 => .int
  | 7 => .array .int
  | 8 => .array .int
  | 9 => .array .int
  | 10 => .array .int
  | 11 => .array .int
  | 12 => .int
  | 13 => .int
  | 14 => .int
  | _ => .long
theorem nmX5 : ∀ a, a < 16 → ∀ b, b < 16 → a ≠ b → (TX5 a).2.1 ≠ (TX5 b).2.1 := by decide +kernel
theorem tyX5_ok : ∀ k, k < 16 → parseFieldDescriptor (TX5 k).2.2.1 = some (tyX5 k) := by decide +kernel
abbrev cX5_init : ByteArray := prog_7_method_1_code
def yX5_init : MethodName := ⟨RX5, "<init>", "()V"⟩
abbrev cX5_in : ByteArray := prog_7_method_3_code
def yX5_in : MethodName := ⟨RX5, "in", "(JJJ)Z"⟩
abbrev cX5_refuses : ByteArray := prog_7_method_4_code
def yX5_refuses : MethodName := ⟨RX5, "refuses", "(I)I"⟩
abbrev cX5_laysAside : ByteArray := prog_7_method_5_code
def yX5_laysAside : MethodName := ⟨RX5, "laysAside", "()V"⟩
abbrev cX5_takesBack : ByteArray := prog_7_method_6_code
def yX5_takesBack : MethodName := ⟨RX5, "takesBack", "()V"⟩
abbrev cX5_remembers : ByteArray := prog_7_method_7_code
def yX5_remembers : MethodName := ⟨RX5, "remembers", "()V"⟩
abbrev cX5_back : ByteArray := prog_7_method_8_code
def yX5_back : MethodName := ⟨RX5, "back", "()I"⟩
abbrev cX5_finished : ByteArray := prog_7_method_9_code
def yX5_finished : MethodName := ⟨RX5, "finished", "(I)I"⟩
abbrev cX5_isDrum : ByteArray := prog_7_method_10_code
def yX5_isDrum : MethodName := ⟨RX5, "isDrum", "(I)Z"⟩
abbrev cX5_whole : ByteArray := prog_7_method_11_code
def yX5_whole : MethodName := ⟨RX5, "whole", "(II)I"⟩
abbrev cX5_laysGives : ByteArray := prog_7_method_12_code
def yX5_laysGives : MethodName := ⟨RX5, "laysGives", "()V"⟩
abbrev cX5_turnsBy : ByteArray := prog_7_method_13_code
def yX5_turnsBy : MethodName := ⟨RX5, "turnsBy", "([IIII)Z"⟩
abbrev cX5_turnsOnce : ByteArray := prog_7_method_14_code
def yX5_turnsOnce : MethodName := ⟨RX5, "turnsOnce", "(II)Z"⟩
abbrev cX5_doesTurns : ByteArray := prog_7_method_15_code
def yX5_doesTurns : MethodName := ⟨RX5, "doesTurns", "(II)I"⟩
abbrev cX5_clearsAll : ByteArray := prog_7_method_16_code
def yX5_clearsAll : MethodName := ⟨RX5, "clearsAll", "()I"⟩
abbrev cX5_clearsCounters : ByteArray := prog_7_method_17_code
def yX5_clearsCounters : MethodName := ⟨RX5, "clearsCounters", "()V"⟩
abbrev cX5_laysPlan : ByteArray := prog_7_method_18_code
def yX5_laysPlan : MethodName := ⟨RX5, "laysPlan", "(II)I"⟩
abbrev cX5_doesTimes : ByteArray := prog_7_method_19_code
def yX5_doesTimes : MethodName := ⟨RX5, "doesTimes", "(II)I"⟩
abbrev cX5_downs0 : ByteArray := prog_7_method_20_code
def yX5_downs0 : MethodName := ⟨RX5, "downs0", "()Z"⟩
abbrev cX5_doesDivide : ByteArray := prog_7_method_21_code
def yX5_doesDivide : MethodName := ⟨RX5, "doesDivide", "()I"⟩
abbrev cX5_change : ByteArray := prog_7_method_22_code
def yX5_change : MethodName := ⟨RX5, "change", "(II)I"⟩
abbrev cX5_putDigit : ByteArray := prog_7_method_23_code
def yX5_putDigit : MethodName := ⟨RX5, "putDigit", "(II)I"⟩
abbrev cX5_putShift : ByteArray := prog_7_method_24_code
def yX5_putShift : MethodName := ⟨RX5, "putShift", "(I)I"⟩
abbrev cX5_putReach : ByteArray := prog_7_method_25_code
def yX5_putReach : MethodName := ⟨RX5, "putReach", "(I)I"⟩
abbrev cX5_wornMany : ByteArray := prog_7_method_26_code
def yX5_wornMany : MethodName := ⟨RX5, "wornMany", "(I)I"⟩
abbrev cX5_putWorn : ByteArray := prog_7_method_27_code
def yX5_putWorn : MethodName := ⟨RX5, "putWorn", "(II)I"⟩
abbrev cX5_number : ByteArray := prog_7_method_28_code
def yX5_number : MethodName := ⟨RX5, "number", "([III)I"⟩
abbrev cX5_putInput : ByteArray := prog_7_method_29_code
def yX5_putInput : MethodName := ⟨RX5, "putInput", "(I)I"⟩
abbrev cX5_putWheels : ByteArray := prog_7_method_30_code
def yX5_putWheels : MethodName := ⟨RX5, "putWheels", "(J)I"⟩
abbrev cX5_sets : ByteArray := prog_7_method_31_code
def yX5_sets : MethodName := ⟨RX5, "sets", "(II)I"⟩
abbrev cX5_input : ByteArray := prog_7_method_32_code
def yX5_input : MethodName := ⟨RX5, "input", "(I)I"⟩
abbrev cX5_shifts : ByteArray := prog_7_method_33_code
def yX5_shifts : MethodName := ⟨RX5, "shifts", "(I)I"⟩
abbrev cX5_reaches : ByteArray := prog_7_method_34_code
def yX5_reaches : MethodName := ⟨RX5, "reaches", "(I)I"⟩
abbrev cX5_wears : ByteArray := prog_7_method_35_code
def yX5_wears : MethodName := ⟨RX5, "wears", "(II)I"⟩
abbrev cX5_clears : ByteArray := prog_7_method_36_code
def yX5_clears : MethodName := ⟨RX5, "clears", "()I"⟩
abbrev cX5_lays : ByteArray := prog_7_method_37_code
def yX5_lays : MethodName := ⟨RX5, "lays", "(J)I"⟩
abbrev cX5_ups : ByteArray := prog_7_method_38_code
def yX5_ups : MethodName := ⟨RX5, "ups", "(I)I"⟩
abbrev cX5_downs : ByteArray := prog_7_method_39_code
def yX5_downs : MethodName := ⟨RX5, "downs", "(I)I"⟩
abbrev cX5_times : ByteArray := prog_7_method_40_code
def yX5_times : MethodName := ⟨RX5, "times", "(II)I"⟩
abbrev cX5_divides : ByteArray := prog_7_method_41_code
def yX5_divides : MethodName := ⟨RX5, "divides", "()I"⟩
abbrev cX5_turns : ByteArray := prog_7_method_42_code
def yX5_turns : MethodName := ⟨RX5, "turns", "(II)I"⟩
abbrev cX5_drumTold : ByteArray := prog_7_method_43_code
def yX5_drumTold : MethodName := ⟨RX5, "drumTold", "(II)I"⟩
abbrev cX5_drum : ByteArray := prog_7_method_44_code
def yX5_drum : MethodName := ⟨RX5, "drum", "(II)I"⟩
abbrev cX5_wheel : ByteArray := prog_7_method_45_code
def yX5_wheel : MethodName := ⟨RX5, "wheel", "(I)I"⟩
abbrev cX5_valueOf : ByteArray := prog_7_method_46_code
def yX5_valueOf : MethodName := ⟨RX5, "valueOf", "([II)J"⟩
abbrev cX5_value : ByteArray := prog_7_method_47_code
def yX5_value : MethodName := ⟨RX5, "value", "()J"⟩
abbrev cX5_counter : ByteArray := prog_7_method_48_code
def yX5_counter : MethodName := ⟨RX5, "counter", "(I)I"⟩
abbrev cX5_countTold : ByteArray := prog_7_method_49_code
def yX5_countTold : MethodName := ⟨RX5, "countTold", "(I)I"⟩
abbrev cX5_count : ByteArray := prog_7_method_50_code
def yX5_count : MethodName := ⟨RX5, "count", "(I)I"⟩
abbrev cX5_tries : ByteArray := prog_7_method_51_code
def yX5_tries : MethodName := ⟨RX5, "tries", "(I)J"⟩
abbrev cX5_trialOf : ByteArray := prog_7_method_52_code
def yX5_trialOf : MethodName := ⟨RX5, "trialOf", "(I)J"⟩
abbrev cX5_trial : ByteArray := prog_7_method_53_code
def yX5_trial : MethodName := ⟨RX5, "trial", "(I)J"⟩
abbrev cX5_explained : ByteArray := prog_7_method_54_code
def yX5_explained : MethodName := ⟨RX5, "explained", "(JII)I"⟩
abbrev cX5_explains : ByteArray := prog_7_method_55_code
def yX5_explains : MethodName := ⟨RX5, "explains", "(JII)I"⟩
abbrev cX5_type : ByteArray := prog_7_method_56_code
def yX5_type : MethodName := ⟨RX5, "type", "(I)I"⟩
abbrev cX5_wipes : ByteArray := prog_7_method_57_code
def yX5_wipes : MethodName := ⟨RX5, "wipes", "()I"⟩
abbrev cX5_isAt : ByteArray := prog_7_method_58_code
def yX5_isAt : MethodName := ⟨RX5, "isAt", "(II)Z"⟩
abbrev cX5_blanks : ByteArray := prog_7_method_59_code
def yX5_blanks : MethodName := ⟨RX5, "blanks", "()V"⟩
abbrev cX5_fails : ByteArray := prog_7_method_60_code
def yX5_fails : MethodName := ⟨RX5, "fails", "()Z"⟩
abbrev cX5_manyOf : ByteArray := prog_7_method_61_code
def yX5_manyOf : MethodName := ⟨RX5, "manyOf", "(I)I"⟩
abbrev cX5_takesNumber : ByteArray := prog_7_method_62_code
def yX5_takesNumber : MethodName := ⟨RX5, "takesNumber", "(I)Z"⟩
abbrev cX5_takesOrder : ByteArray := prog_7_method_63_code
def yX5_takesOrder : MethodName := ⟨RX5, "takesOrder", "()Z"⟩
abbrev cX5_isRead : ByteArray := prog_7_method_64_code
def yX5_isRead : MethodName := ⟨RX5, "isRead", "()Z"⟩
abbrev cX5_doneOne : ByteArray := prog_7_method_65_code
def yX5_doneOne : MethodName := ⟨RX5, "doneOne", "(I)I"⟩
abbrev cX5_does : ByteArray := prog_7_method_66_code
def yX5_does : MethodName := ⟨RX5, "does", "()I"⟩
abbrev cX5_toldAt : ByteArray := prog_7_method_67_code
def yX5_toldAt : MethodName := ⟨RX5, "toldAt", "(I)I"⟩
abbrev cX5_told : ByteArray := prog_7_method_68_code
def yX5_told : MethodName := ⟨RX5, "told", "(I)I"⟩
abbrev cX5_mix : ByteArray := prog_7_method_69_code
def yX5_mix : MethodName := ⟨RX5, "mix", "(J)V"⟩
abbrev cX5_digest : ByteArray := prog_7_method_70_code
def yX5_digest : MethodName := ⟨RX5, "digest", "()J"⟩
def RJ6 : String := "java/lang/Integer"
def TJ6 : u_T := fun k => match k with
  | _ => ("", "", "", false)
def tyJ6 : Nat → FieldType := fun k => match k with
  | _ => .int
theorem nmJ6 : ∀ a, a < 0 → ∀ b, b < 0 → a ≠ b → (TJ6 a).2.1 ≠ (TJ6 b).2.1 := by decide +kernel
theorem tyJ6_ok : ∀ k, k < 0 → parseFieldDescriptor (TJ6 k).2.2.1 = some (tyJ6 k) := by decide +kernel
abbrev cJ6_bitCount_0f7a4 : ByteArray := prog_8_method_49_code
def yJ6_bitCount_0f7a4 : MethodName := ⟨RJ6, "bitCount", "(I)I"⟩
def RJ9 : String := "java/lang/Math"
def TJ9 : u_T := fun k => match k with
  | _ => ("", "", "", false)
def tyJ9 : Nat → FieldType := fun k => match k with
  | _ => .int
theorem nmJ9 : ∀ a, a < 0 → ∀ b, b < 0 → a ≠ b → (TJ9 a).2.1 ≠ (TJ9 b).2.1 := by decide +kernel
theorem tyJ9_ok : ∀ k, k < 0 → parseFieldDescriptor (TJ9 k).2.2.1 = some (tyJ9 k) := by decide +kernel
abbrev cJ9_abs_0f7a4 : ByteArray := prog_9_method_59_code
def yJ9_abs_0f7a4 : MethodName := ⟨RJ9, "abs", "(I)I"⟩
abbrev cJ9_min_7cf53 : ByteArray := prog_9_method_69_code
def yJ9_min_7cf53 : MethodName := ⟨RJ9, "min", "(II)I"⟩
def RJ10 : String := "java/lang/System"
def TJ10 : u_T := fun k => match k with
  | _ => ("", "", "", false)
def tyJ10 : Nat → FieldType := fun k => match k with
  | _ => .int
theorem nmJ10 : ∀ a, a < 0 → ∀ b, b < 0 → a ≠ b → (TJ10 a).2.1 ≠ (TJ10 b).2.1 := by decide +kernel
theorem tyJ10_ok : ∀ k, k < 0 → parseFieldDescriptor (TJ10 k).2.2.1 = some (tyJ10 k) := by decide +kernel
def RJ7 : String := "java/util/Arrays"
def TJ7 : u_T := fun k => match k with
  | _ => ("", "", "", false)
def tyJ7 : Nat → FieldType := fun k => match k with
  | _ => .int
theorem nmJ7 : ∀ a, a < 0 → ∀ b, b < 0 → a ≠ b → (TJ7 a).2.1 ≠ (TJ7 b).2.1 := by decide +kernel
theorem tyJ7_ok : ∀ k, k < 0 → parseFieldDescriptor (TJ7 k).2.2.1 = some (tyJ7 k) := by decide +kernel
abbrev cJ7_fill_53178 : ByteArray := prog_11_method_103_code
def yJ7_fill_53178 : MethodName := ⟨RJ7, "fill", "([II)V"⟩
def RL : String := "DrumCrankLaw"
abbrev cL_law : ByteArray := code
def yL_law : MethodName := ⟨RL, "law", "([I)Z"⟩
abbrev vwCl : List vw_C := [(RX0, TX0, 6), (RX1, TX1, 3), (RX2, TX2, 2), (RX3, TX3, 8), (RX4, TX4, 8), (RX5, TX5, 16)]
end
section
theorem dX0_init_0 : decode cX0_init 0 = .ok (.aload_n 0, 1) := by decide +kernel
theorem dX0_init_1 : decode cX0_init 1 = .ok (.invokespecial 3, 3) := by decide +kernel
theorem dX0_init_4 : decode cX0_init 4 = .ok (.aload_n 0, 1) := by decide +kernel
theorem dX0_init_5 : decode cX0_init 5 = .ok (.bipush 60, 2) := by decide +kernel
theorem dX0_init_7 : decode cX0_init 7 = .ok (.newarray .int, 2) := by decide +kernel
theorem dX0_init_9 : decode cX0_init 9 = .ok (.putfield 9, 3) := by decide +kernel
theorem dX0_init_12 : decode cX0_init 12 = .ok (.aload_n 0, 1) := by decide +kernel
theorem dX0_init_13 : decode cX0_init 13 = .ok (.bipush 60, 2) := by decide +kernel
theorem dX0_init_15 : decode cX0_init 15 = .ok (.newarray .int, 2) := by decide +kernel
theorem dX0_init_17 : decode cX0_init 17 = .ok (.putfield 15, 3) := by decide +kernel
theorem dX0_init_20 : decode cX0_init 20 = .ok (.aload_n 0, 1) := by decide +kernel
theorem dX0_init_21 : decode cX0_init 21 = .ok (.bipush 60, 2) := by decide +kernel
theorem dX0_init_23 : decode cX0_init 23 = .ok (.newarray .int, 2) := by decide +kernel
theorem dX0_init_25 : decode cX0_init 25 = .ok (.putfield 18, 3) := by decide +kernel
theorem dX0_init_28 : decode cX0_init 28 = .ok (.aload_n 0, 1) := by decide +kernel
theorem dX0_init_29 : decode cX0_init 29 = .ok (.iconst 0, 1) := by decide +kernel
theorem dX0_init_30 : decode cX0_init 30 = .ok (.putfield 21, 3) := by decide +kernel
theorem dX0_init_33 : decode cX0_init 33 = .ok (.return_, 1) := by decide +kernel
theorem dX0_read_0 : decode cX0_read 0 = .ok (.aload_n 0, 1) := by decide +kernel
theorem dX0_read_1 : decode cX0_read 1 = .ok (.iconst 0, 1) := by decide +kernel
theorem dX0_read_2 : decode cX0_read 2 = .ok (.putfield 25, 3) := by decide +kernel
theorem dX0_read_5 : decode cX0_read 5 = .ok (.iconst 0, 1) := by decide +kernel
theorem dX0_read_6 : decode cX0_read 6 = .ok (.istore_n 2, 1) := by decide +kernel
theorem dX0_read_7 : decode cX0_read 7 = .ok (.iload_n 2, 1) := by decide +kernel
theorem dX0_read_8 : decode cX0_read 8 = .ok (.bipush 60, 2) := by decide +kernel
theorem dX0_read_10 : decode cX0_read 10 = .ok (.if_icmp .ge 48, 3) := by decide +kernel
theorem dX0_read_13 : decode cX0_read 13 = .ok (.aload_n 0, 1) := by decide +kernel
theorem dX0_read_14 : decode cX0_read 14 = .ok (.aload_n 1, 1) := by decide +kernel
theorem dX0_read_15 : decode cX0_read 15 = .ok (.iload_n 2, 1) := by decide +kernel
theorem dX0_read_16 : decode cX0_read 16 = .ok (.invokevirtual 28, 3) := by decide +kernel
theorem dX0_read_19 : decode cX0_read 19 = .ok (.ifCond .ne 8, 3) := by decide +kernel
theorem dX0_read_22 : decode cX0_read 22 = .ok (.aload_n 0, 1) := by decide +kernel
theorem dX0_read_23 : decode cX0_read 23 = .ok (.getfield 25, 3) := by decide +kernel
theorem dX0_read_26 : decode cX0_read 26 = .ok (.ireturn, 1) := by decide +kernel
theorem dX0_read_27 : decode cX0_read 27 = .ok (.aload_n 0, 1) := by decide +kernel
theorem dX0_read_28 : decode cX0_read 28 = .ok (.iload_n 2, 1) := by decide +kernel
theorem dX0_read_29 : decode cX0_read 29 = .ok (.iconst 1, 1) := by decide +kernel
theorem dX0_read_30 : decode cX0_read 30 = .ok (.iadd, 1) := by decide +kernel
theorem dX0_read_31 : decode cX0_read 31 = .ok (.putfield 21, 3) := by decide +kernel
theorem dX0_read_34 : decode cX0_read 34 = .ok (.aload_n 0, 1) := by decide +kernel
theorem dX0_read_35 : decode cX0_read 35 = .ok (.aload_n 1, 1) := by decide +kernel
theorem dX0_read_36 : decode cX0_read 36 = .ok (.invokevirtual 32, 3) := by decide +kernel
theorem dX0_read_39 : decode cX0_read 39 = .ok (.aload_n 0, 1) := by decide +kernel
theorem dX0_read_40 : decode cX0_read 40 = .ok (.getfield 25, 3) := by decide +kernel
theorem dX0_read_43 : decode cX0_read 43 = .ok (.aload_n 1, 1) := by decide +kernel
theorem dX0_read_44 : decode cX0_read 44 = .ok (.getfield 36, 3) := by decide +kernel
theorem dX0_read_47 : decode cX0_read 47 = .ok (.if_icmp .lt 5, 3) := by decide +kernel
theorem dX0_read_50 : decode cX0_read 50 = .ok (.iconst (-1), 1) := by decide +kernel
theorem dX0_read_51 : decode cX0_read 51 = .ok (.ireturn, 1) := by decide +kernel
theorem dX0_read_52 : decode cX0_read 52 = .ok (.iinc 2 1, 3) := by decide +kernel
theorem dX0_read_55 : decode cX0_read 55 = .ok (.goto (-48), 3) := by decide +kernel
theorem dX0_read_58 : decode cX0_read 58 = .ok (.aload_n 0, 1) := by decide +kernel
theorem dX0_read_59 : decode cX0_read 59 = .ok (.getfield 25, 3) := by decide +kernel
theorem dX0_read_62 : decode cX0_read 62 = .ok (.ireturn, 1) := by decide +kernel
theorem dX0_readOrder_0 : decode cX0_readOrder 0 = .ok (.aload_n 0, 1) := by decide +kernel
theorem dX0_readOrder_1 : decode cX0_readOrder 1 = .ok (.aload_n 1, 1) := by decide +kernel
theorem dX0_readOrder_2 : decode cX0_readOrder 2 = .ok (.invokevirtual 32, 3) := by decide +kernel
theorem dX0_readOrder_5 : decode cX0_readOrder 5 = .ok (.aload_n 1, 1) := by decide +kernel
theorem dX0_readOrder_6 : decode cX0_readOrder 6 = .ok (.aload_n 0, 1) := by decide +kernel
theorem dX0_readOrder_7 : decode cX0_readOrder 7 = .ok (.getfield 25, 3) := by decide +kernel
theorem dX0_readOrder_10 : decode cX0_readOrder 10 = .ok (.invokevirtual 41, 3) := by decide +kernel
theorem dX0_readOrder_13 : decode cX0_readOrder 13 = .ok (.istore_n 3, 1) := by decide +kernel
theorem dX0_readOrder_14 : decode cX0_readOrder 14 = .ok (.iload_n 3, 1) := by decide +kernel
theorem dX0_readOrder_15 : decode cX0_readOrder 15 = .ok (.invokestatic 45, 3) := by decide +kernel
theorem dX0_readOrder_18 : decode cX0_readOrder 18 = .ok (.istore 4, 2) := by decide +kernel
theorem dX0_readOrder_20 : decode cX0_readOrder 20 = .ok (.iload 4, 2) := by decide +kernel
theorem dX0_readOrder_22 : decode cX0_readOrder 22 = .ok (.iconst (-1), 1) := by decide +kernel
theorem dX0_readOrder_23 : decode cX0_readOrder 23 = .ok (.if_icmp .ne 5, 3) := by decide +kernel
theorem dX0_readOrder_26 : decode cX0_readOrder 26 = .ok (.iconst 0, 1) := by decide +kernel
theorem dX0_readOrder_27 : decode cX0_readOrder 27 = .ok (.ireturn, 1) := by decide +kernel
theorem dX0_readOrder_28 : decode cX0_readOrder 28 = .ok (.aload_n 0, 1) := by decide +kernel
theorem dX0_readOrder_29 : decode cX0_readOrder 29 = .ok (.dup, 1) := by decide +kernel
theorem dX0_readOrder_30 : decode cX0_readOrder 30 = .ok (.getfield 25, 3) := by decide +kernel
theorem dX0_readOrder_33 : decode cX0_readOrder 33 = .ok (.iconst 1, 1) := by decide +kernel
theorem dX0_readOrder_34 : decode cX0_readOrder 34 = .ok (.iadd, 1) := by decide +kernel
theorem dX0_readOrder_35 : decode cX0_readOrder 35 = .ok (.putfield 25, 3) := by decide +kernel
theorem dX0_readOrder_38 : decode cX0_readOrder 38 = .ok (.aload_n 0, 1) := by decide +kernel
theorem dX0_readOrder_39 : decode cX0_readOrder 39 = .ok (.getfield 9, 3) := by decide +kernel
theorem dX0_readOrder_42 : decode cX0_readOrder 42 = .ok (.iload_n 2, 1) := by decide +kernel
theorem dX0_readOrder_43 : decode cX0_readOrder 43 = .ok (.iload_n 3, 1) := by decide +kernel
theorem dX0_readOrder_44 : decode cX0_readOrder 44 = .ok (.iastore, 1) := by decide +kernel
theorem dX0_readOrder_45 : decode cX0_readOrder 45 = .ok (.iload 4, 2) := by decide +kernel
theorem dX0_readOrder_47 : decode cX0_readOrder 47 = .ok (.iconst 1, 1) := by decide +kernel
theorem dX0_readOrder_48 : decode cX0_readOrder 48 = .ok (.if_icmp .lt 23, 3) := by decide +kernel
theorem dX0_readOrder_51 : decode cX0_readOrder 51 = .ok (.aload_n 0, 1) := by decide +kernel
theorem dX0_readOrder_52 : decode cX0_readOrder 52 = .ok (.aload_n 1, 1) := by decide +kernel
theorem dX0_readOrder_53 : decode cX0_readOrder 53 = .ok (.invokevirtual 48, 3) := by decide +kernel
theorem dX0_readOrder_56 : decode cX0_readOrder 56 = .ok (.ifCond .ne 5, 3) := by decide +kernel
theorem dX0_readOrder_59 : decode cX0_readOrder 59 = .ok (.iconst 0, 1) := by decide +kernel
theorem dX0_readOrder_60 : decode cX0_readOrder 60 = .ok (.ireturn, 1) := by decide +kernel
theorem dX0_readOrder_61 : decode cX0_readOrder 61 = .ok (.aload_n 0, 1) := by decide +kernel
theorem dX0_readOrder_62 : decode cX0_readOrder 62 = .ok (.getfield 15, 3) := by decide +kernel
theorem dX0_readOrder_65 : decode cX0_readOrder 65 = .ok (.iload_n 2, 1) := by decide +kernel
theorem dX0_readOrder_66 : decode cX0_readOrder 66 = .ok (.aload_n 0, 1) := by decide +kernel
theorem dX0_readOrder_67 : decode cX0_readOrder 67 = .ok (.getfield 52, 3) := by decide +kernel
theorem dX0_readOrder_70 : decode cX0_readOrder 70 = .ok (.iastore, 1) := by decide +kernel
theorem dX0_readOrder_71 : decode cX0_readOrder 71 = .ok (.iload 4, 2) := by decide +kernel
theorem dX0_readOrder_73 : decode cX0_readOrder 73 = .ok (.iconst 2, 1) := by decide +kernel
theorem dX0_readOrder_74 : decode cX0_readOrder 74 = .ok (.if_icmp .lt 23, 3) := by decide +kernel
theorem dX0_readOrder_77 : decode cX0_readOrder 77 = .ok (.aload_n 0, 1) := by decide +kernel
theorem dX0_readOrder_78 : decode cX0_readOrder 78 = .ok (.aload_n 1, 1) := by decide +kernel
theorem dX0_readOrder_79 : decode cX0_readOrder 79 = .ok (.invokevirtual 48, 3) := by decide +kernel
theorem dX0_readOrder_82 : decode cX0_readOrder 82 = .ok (.ifCond .ne 5, 3) := by decide +kernel
theorem dX0_readOrder_85 : decode cX0_readOrder 85 = .ok (.iconst 0, 1) := by decide +kernel
theorem dX0_readOrder_86 : decode cX0_readOrder 86 = .ok (.ireturn, 1) := by decide +kernel
theorem dX0_readOrder_87 : decode cX0_readOrder 87 = .ok (.aload_n 0, 1) := by decide +kernel
theorem dX0_readOrder_88 : decode cX0_readOrder 88 = .ok (.getfield 18, 3) := by decide +kernel
theorem dX0_readOrder_91 : decode cX0_readOrder 91 = .ok (.iload_n 2, 1) := by decide +kernel
theorem dX0_readOrder_92 : decode cX0_readOrder 92 = .ok (.aload_n 0, 1) := by decide +kernel
theorem dX0_readOrder_93 : decode cX0_readOrder 93 = .ok (.getfield 52, 3) := by decide +kernel
theorem dX0_readOrder_96 : decode cX0_readOrder 96 = .ok (.iastore, 1) := by decide +kernel
theorem dX0_readOrder_97 : decode cX0_readOrder 97 = .ok (.aload_n 0, 1) := by decide +kernel
theorem dX0_readOrder_98 : decode cX0_readOrder 98 = .ok (.aload_n 1, 1) := by decide +kernel
theorem dX0_readOrder_99 : decode cX0_readOrder 99 = .ok (.invokevirtual 32, 3) := by decide +kernel
theorem dX0_readOrder_102 : decode cX0_readOrder 102 = .ok (.aload_n 1, 1) := by decide +kernel
theorem dX0_readOrder_103 : decode cX0_readOrder 103 = .ok (.aload_n 0, 1) := by decide +kernel
theorem dX0_readOrder_104 : decode cX0_readOrder 104 = .ok (.getfield 25, 3) := by decide +kernel
theorem dX0_readOrder_107 : decode cX0_readOrder 107 = .ok (.invokevirtual 41, 3) := by decide +kernel
theorem dX0_readOrder_110 : decode cX0_readOrder 110 = .ok (.bipush 59, 2) := by decide +kernel
theorem dX0_readOrder_112 : decode cX0_readOrder 112 = .ok (.if_icmp .eq 5, 3) := by decide +kernel
theorem dX0_readOrder_115 : decode cX0_readOrder 115 = .ok (.iconst 0, 1) := by decide +kernel
theorem dX0_readOrder_116 : decode cX0_readOrder 116 = .ok (.ireturn, 1) := by decide +kernel
theorem dX0_readOrder_117 : decode cX0_readOrder 117 = .ok (.aload_n 0, 1) := by decide +kernel
theorem dX0_readOrder_118 : decode cX0_readOrder 118 = .ok (.dup, 1) := by decide +kernel
theorem dX0_readOrder_119 : decode cX0_readOrder 119 = .ok (.getfield 25, 3) := by decide +kernel
theorem dX0_readOrder_122 : decode cX0_readOrder 122 = .ok (.iconst 1, 1) := by decide +kernel
theorem dX0_readOrder_123 : decode cX0_readOrder 123 = .ok (.iadd, 1) := by decide +kernel
theorem dX0_readOrder_124 : decode cX0_readOrder 124 = .ok (.putfield 25, 3) := by decide +kernel
theorem dX0_readOrder_127 : decode cX0_readOrder 127 = .ok (.iconst 1, 1) := by decide +kernel
theorem dX0_readOrder_128 : decode cX0_readOrder 128 = .ok (.ireturn, 1) := by decide +kernel
theorem dX0_readNumber_0 : decode cX0_readNumber 0 = .ok (.aload_n 0, 1) := by decide +kernel
theorem dX0_readNumber_1 : decode cX0_readNumber 1 = .ok (.aload_n 1, 1) := by decide +kernel
theorem dX0_readNumber_2 : decode cX0_readNumber 2 = .ok (.invokevirtual 32, 3) := by decide +kernel
theorem dX0_readNumber_5 : decode cX0_readNumber 5 = .ok (.aload_n 0, 1) := by decide +kernel
theorem dX0_readNumber_6 : decode cX0_readNumber 6 = .ok (.iconst 0, 1) := by decide +kernel
theorem dX0_readNumber_7 : decode cX0_readNumber 7 = .ok (.putfield 52, 3) := by decide +kernel
theorem dX0_readNumber_10 : decode cX0_readNumber 10 = .ok (.iconst 0, 1) := by decide +kernel
theorem dX0_readNumber_11 : decode cX0_readNumber 11 = .ok (.istore_n 2, 1) := by decide +kernel
theorem dX0_readNumber_12 : decode cX0_readNumber 12 = .ok (.iload_n 2, 1) := by decide +kernel
theorem dX0_readNumber_13 : decode cX0_readNumber 13 = .ok (.bipush 6, 2) := by decide +kernel
theorem dX0_readNumber_15 : decode cX0_readNumber 15 = .ok (.if_icmp .ge 56, 3) := by decide +kernel
theorem dX0_readNumber_18 : decode cX0_readNumber 18 = .ok (.aload_n 1, 1) := by decide +kernel
theorem dX0_readNumber_19 : decode cX0_readNumber 19 = .ok (.aload_n 0, 1) := by decide +kernel
theorem dX0_readNumber_20 : decode cX0_readNumber 20 = .ok (.getfield 25, 3) := by decide +kernel
theorem dX0_readNumber_23 : decode cX0_readNumber 23 = .ok (.invokevirtual 41, 3) := by decide +kernel
theorem dX0_readNumber_26 : decode cX0_readNumber 26 = .ok (.invokestatic 55, 3) := by decide +kernel
theorem dX0_readNumber_29 : decode cX0_readNumber 29 = .ok (.ifCond .eq 42, 3) := by decide +kernel
theorem dX0_readNumber_32 : decode cX0_readNumber 32 = .ok (.aload_n 0, 1) := by decide +kernel
theorem dX0_readNumber_33 : decode cX0_readNumber 33 = .ok (.aload_n 0, 1) := by decide +kernel
theorem dX0_readNumber_34 : decode cX0_readNumber 34 = .ok (.getfield 52, 3) := by decide +kernel
theorem dX0_readNumber_37 : decode cX0_readNumber 37 = .ok (.bipush 10, 2) := by decide +kernel
theorem dX0_readNumber_39 : decode cX0_readNumber 39 = .ok (.imul, 1) := by decide +kernel
theorem dX0_readNumber_40 : decode cX0_readNumber 40 = .ok (.aload_n 1, 1) := by decide +kernel
theorem dX0_readNumber_41 : decode cX0_readNumber 41 = .ok (.aload_n 0, 1) := by decide +kernel
theorem dX0_readNumber_42 : decode cX0_readNumber 42 = .ok (.getfield 25, 3) := by decide +kernel
theorem dX0_readNumber_45 : decode cX0_readNumber 45 = .ok (.invokevirtual 41, 3) := by decide +kernel
theorem dX0_readNumber_48 : decode cX0_readNumber 48 = .ok (.iadd, 1) := by decide +kernel
theorem dX0_readNumber_49 : decode cX0_readNumber 49 = .ok (.bipush 48, 2) := by decide +kernel
theorem dX0_readNumber_51 : decode cX0_readNumber 51 = .ok (.isub, 1) := by decide +kernel
theorem dX0_readNumber_52 : decode cX0_readNumber 52 = .ok (.putfield 52, 3) := by decide +kernel
theorem dX0_readNumber_55 : decode cX0_readNumber 55 = .ok (.aload_n 0, 1) := by decide +kernel
theorem dX0_readNumber_56 : decode cX0_readNumber 56 = .ok (.dup, 1) := by decide +kernel
theorem dX0_readNumber_57 : decode cX0_readNumber 57 = .ok (.getfield 25, 3) := by decide +kernel
theorem dX0_readNumber_60 : decode cX0_readNumber 60 = .ok (.iconst 1, 1) := by decide +kernel
theorem dX0_readNumber_61 : decode cX0_readNumber 61 = .ok (.iadd, 1) := by decide +kernel
theorem dX0_readNumber_62 : decode cX0_readNumber 62 = .ok (.putfield 25, 3) := by decide +kernel
theorem dX0_readNumber_65 : decode cX0_readNumber 65 = .ok (.iinc 2 1, 3) := by decide +kernel
theorem dX0_readNumber_68 : decode cX0_readNumber 68 = .ok (.goto (-56), 3) := by decide +kernel
theorem dX0_readNumber_71 : decode cX0_readNumber 71 = .ok (.iload_n 2, 1) := by decide +kernel
theorem dX0_readNumber_72 : decode cX0_readNumber 72 = .ok (.ifCond .le 21, 3) := by decide +kernel
theorem dX0_readNumber_75 : decode cX0_readNumber 75 = .ok (.aload_n 1, 1) := by decide +kernel
theorem dX0_readNumber_76 : decode cX0_readNumber 76 = .ok (.aload_n 0, 1) := by decide +kernel
theorem dX0_readNumber_77 : decode cX0_readNumber 77 = .ok (.getfield 25, 3) := by decide +kernel
theorem dX0_readNumber_80 : decode cX0_readNumber 80 = .ok (.invokevirtual 41, 3) := by decide +kernel
theorem dX0_readNumber_83 : decode cX0_readNumber 83 = .ok (.invokestatic 55, 3) := by decide +kernel
theorem dX0_readNumber_86 : decode cX0_readNumber 86 = .ok (.ifCond .ne 7, 3) := by decide +kernel
theorem dX0_readNumber_89 : decode cX0_readNumber 89 = .ok (.iconst 1, 1) := by decide +kernel
theorem dX0_readNumber_90 : decode cX0_readNumber 90 = .ok (.goto 4, 3) := by decide +kernel
theorem dX0_readNumber_93 : decode cX0_readNumber 93 = .ok (.iconst 0, 1) := by decide +kernel
theorem dX0_readNumber_94 : decode cX0_readNumber 94 = .ok (.ireturn, 1) := by decide +kernel
theorem dX0_skipBlanks_0 : decode cX0_skipBlanks 0 = .ok (.aload_n 0, 1) := by decide +kernel
theorem dX0_skipBlanks_1 : decode cX0_skipBlanks 1 = .ok (.getfield 25, 3) := by decide +kernel
theorem dX0_skipBlanks_4 : decode cX0_skipBlanks 4 = .ok (.aload_n 1, 1) := by decide +kernel
theorem dX0_skipBlanks_5 : decode cX0_skipBlanks 5 = .ok (.getfield 36, 3) := by decide +kernel
theorem dX0_skipBlanks_8 : decode cX0_skipBlanks 8 = .ok (.if_icmp .ge 29, 3) := by decide +kernel
theorem dX0_skipBlanks_11 : decode cX0_skipBlanks 11 = .ok (.aload_n 1, 1) := by decide +kernel
theorem dX0_skipBlanks_12 : decode cX0_skipBlanks 12 = .ok (.aload_n 0, 1) := by decide +kernel
theorem dX0_skipBlanks_13 : decode cX0_skipBlanks 13 = .ok (.getfield 25, 3) := by decide +kernel
theorem dX0_skipBlanks_16 : decode cX0_skipBlanks 16 = .ok (.invokevirtual 41, 3) := by decide +kernel
theorem dX0_skipBlanks_19 : decode cX0_skipBlanks 19 = .ok (.bipush 32, 2) := by decide +kernel
theorem dX0_skipBlanks_21 : decode cX0_skipBlanks 21 = .ok (.if_icmp .ne 16, 3) := by decide +kernel
theorem dX0_skipBlanks_24 : decode cX0_skipBlanks 24 = .ok (.aload_n 0, 1) := by decide +kernel
theorem dX0_skipBlanks_25 : decode cX0_skipBlanks 25 = .ok (.dup, 1) := by decide +kernel
theorem dX0_skipBlanks_26 : decode cX0_skipBlanks 26 = .ok (.getfield 25, 3) := by decide +kernel
theorem dX0_skipBlanks_29 : decode cX0_skipBlanks 29 = .ok (.iconst 1, 1) := by decide +kernel
theorem dX0_skipBlanks_30 : decode cX0_skipBlanks 30 = .ok (.iadd, 1) := by decide +kernel
theorem dX0_skipBlanks_31 : decode cX0_skipBlanks 31 = .ok (.putfield 25, 3) := by decide +kernel
theorem dX0_skipBlanks_34 : decode cX0_skipBlanks 34 = .ok (.goto (-34), 3) := by decide +kernel
theorem dX0_skipBlanks_37 : decode cX0_skipBlanks 37 = .ok (.return_, 1) := by decide +kernel
theorem dX0_isFigure_0 : decode cX0_isFigure 0 = .ok (.iload_n 0, 1) := by decide +kernel
theorem dX0_isFigure_1 : decode cX0_isFigure 1 = .ok (.i2l, 1) := by decide +kernel
theorem dX0_isFigure_2 : decode cX0_isFigure 2 = .ok (.ldc2_w 59, 3) := by decide +kernel
theorem dX0_isFigure_5 : decode cX0_isFigure 5 = .ok (.ldc2_w 61, 3) := by decide +kernel
theorem dX0_isFigure_8 : decode cX0_isFigure 8 = .ok (.invokestatic 63, 3) := by decide +kernel
theorem dX0_isFigure_11 : decode cX0_isFigure 11 = .ok (.ireturn, 1) := by decide +kernel
theorem dX0_numbersOf_0 : decode cX0_numbersOf 0 = .ok (.iload_n 0, 1) := by decide +kernel
theorem dX0_numbersOf_1 : decode cX0_numbersOf 1 = .ok (.tableswitch 105 99 119 #[99, 101, 105, 105, 105, 105, 103, 105, 105, 105, 105, 105, 105, 105, 105, 101, 101, 103, 101, 99, 103], 99) := by decide +kernel
theorem dX0_numbersOf_100 : decode cX0_numbersOf 100 = .ok (.iconst 0, 1) := by decide +kernel
theorem dX0_numbersOf_101 : decode cX0_numbersOf 101 = .ok (.ireturn, 1) := by decide +kernel
theorem dX0_numbersOf_102 : decode cX0_numbersOf 102 = .ok (.iconst 1, 1) := by decide +kernel
theorem dX0_numbersOf_103 : decode cX0_numbersOf 103 = .ok (.ireturn, 1) := by decide +kernel
theorem dX0_numbersOf_104 : decode cX0_numbersOf 104 = .ok (.iconst 2, 1) := by decide +kernel
theorem dX0_numbersOf_105 : decode cX0_numbersOf 105 = .ok (.ireturn, 1) := by decide +kernel
theorem dX0_numbersOf_106 : decode cX0_numbersOf 106 = .ok (.iconst (-1), 1) := by decide +kernel
theorem dX0_numbersOf_107 : decode cX0_numbersOf 107 = .ok (.ireturn, 1) := by decide +kernel
theorem dX1_init_0 : decode cX1_init 0 = .ok (.aload_n 0, 1) := by decide +kernel
theorem dX1_init_1 : decode cX1_init 1 = .ok (.invokespecial 3, 3) := by decide +kernel
theorem dX1_init_4 : decode cX1_init 4 = .ok (.aload_n 0, 1) := by decide +kernel
theorem dX1_init_5 : decode cX1_init 5 = .ok (.iconst 5, 1) := by decide +kernel
theorem dX1_init_6 : decode cX1_init 6 = .ok (.anewarray 9, 3) := by decide +kernel
theorem dX1_init_9 : decode cX1_init 9 = .ok (.putfield 11, 3) := by decide +kernel
theorem dX1_init_12 : decode cX1_init 12 = .ok (.aload_n 0, 1) := by decide +kernel
theorem dX1_init_13 : decode cX1_init 13 = .ok (.iconst 0, 1) := by decide +kernel
theorem dX1_init_14 : decode cX1_init 14 = .ok (.putfield 17, 3) := by decide +kernel
theorem dX1_init_17 : decode cX1_init 17 = .ok (.aload_n 0, 1) := by decide +kernel
theorem dX1_init_18 : decode cX1_init 18 = .ok (.iconst 0, 1) := by decide +kernel
theorem dX1_init_19 : decode cX1_init 19 = .ok (.putfield 21, 3) := by decide +kernel
theorem dX1_init_22 : decode cX1_init 22 = .ok (.iconst 0, 1) := by decide +kernel
theorem dX1_init_23 : decode cX1_init 23 = .ok (.istore_n 1, 1) := by decide +kernel
theorem dX1_init_24 : decode cX1_init 24 = .ok (.iload_n 1, 1) := by decide +kernel
theorem dX1_init_25 : decode cX1_init 25 = .ok (.iconst 5, 1) := by decide +kernel
theorem dX1_init_26 : decode cX1_init 26 = .ok (.if_icmp .ge 22, 3) := by decide +kernel
theorem dX1_init_29 : decode cX1_init 29 = .ok (.aload_n 0, 1) := by decide +kernel
theorem dX1_init_30 : decode cX1_init 30 = .ok (.getfield 11, 3) := by decide +kernel
theorem dX1_init_33 : decode cX1_init 33 = .ok (.iload_n 1, 1) := by decide +kernel
theorem dX1_init_34 : decode cX1_init 34 = .ok (.new 9, 3) := by decide +kernel
theorem dX1_init_37 : decode cX1_init 37 = .ok (.dup, 1) := by decide +kernel
theorem dX1_init_38 : decode cX1_init 38 = .ok (.invokespecial 24, 3) := by decide +kernel
theorem dX1_init_41 : decode cX1_init 41 = .ok (.aastore, 1) := by decide +kernel
theorem dX1_init_42 : decode cX1_init 42 = .ok (.iinc 1 1, 3) := by decide +kernel
theorem dX1_init_45 : decode cX1_init 45 = .ok (.goto (-21), 3) := by decide +kernel
theorem dX1_init_48 : decode cX1_init 48 = .ok (.return_, 1) := by decide +kernel
theorem dX1_keep_0 : decode cX1_keep 0 = .ok (.aload_n 0, 1) := by decide +kernel
theorem dX1_keep_1 : decode cX1_keep 1 = .ok (.getfield 11, 3) := by decide +kernel
theorem dX1_keep_4 : decode cX1_keep 4 = .ok (.aload_n 0, 1) := by decide +kernel
theorem dX1_keep_5 : decode cX1_keep 5 = .ok (.getfield 17, 3) := by decide +kernel
theorem dX1_keep_8 : decode cX1_keep 8 = .ok (.aaload, 1) := by decide +kernel
theorem dX1_keep_9 : decode cX1_keep 9 = .ok (.aload_n 1, 1) := by decide +kernel
theorem dX1_keep_10 : decode cX1_keep 10 = .ok (.invokevirtual 25, 3) := by decide +kernel
theorem dX1_keep_13 : decode cX1_keep 13 = .ok (.aload_n 0, 1) := by decide +kernel
theorem dX1_keep_14 : decode cX1_keep 14 = .ok (.aload_n 0, 1) := by decide +kernel
theorem dX1_keep_15 : decode cX1_keep 15 = .ok (.getfield 17, 3) := by decide +kernel
theorem dX1_keep_18 : decode cX1_keep 18 = .ok (.iconst 1, 1) := by decide +kernel
theorem dX1_keep_19 : decode cX1_keep 19 = .ok (.iadd, 1) := by decide +kernel
theorem dX1_keep_20 : decode cX1_keep 20 = .ok (.iconst 5, 1) := by decide +kernel
theorem dX1_keep_21 : decode cX1_keep 21 = .ok (.irem, 1) := by decide +kernel
theorem dX1_keep_22 : decode cX1_keep 22 = .ok (.putfield 17, 3) := by decide +kernel
theorem dX1_keep_25 : decode cX1_keep 25 = .ok (.aload_n 0, 1) := by decide +kernel
theorem dX1_keep_26 : decode cX1_keep 26 = .ok (.aload_n 0, 1) := by decide +kernel
theorem dX1_keep_27 : decode cX1_keep 27 = .ok (.getfield 21, 3) := by decide +kernel
theorem dX1_keep_30 : decode cX1_keep 30 = .ok (.iconst 1, 1) := by decide +kernel
theorem dX1_keep_31 : decode cX1_keep 31 = .ok (.iadd, 1) := by decide +kernel
theorem dX1_keep_32 : decode cX1_keep 32 = .ok (.iconst 5, 1) := by decide +kernel
theorem dX1_keep_33 : decode cX1_keep 33 = .ok (.invokestatic 29, 3) := by decide +kernel
theorem dX1_keep_36 : decode cX1_keep 36 = .ok (.putfield 21, 3) := by decide +kernel
theorem dX1_keep_39 : decode cX1_keep 39 = .ok (.return_, 1) := by decide +kernel
theorem dX1_giveBackTo_0 : decode cX1_giveBackTo 0 = .ok (.aload_n 0, 1) := by decide +kernel
theorem dX1_giveBackTo_1 : decode cX1_giveBackTo 1 = .ok (.getfield 21, 3) := by decide +kernel
theorem dX1_giveBackTo_4 : decode cX1_giveBackTo 4 = .ok (.ifCond .ne 4, 3) := by decide +kernel
theorem dX1_giveBackTo_7 : decode cX1_giveBackTo 7 = .ok (.return_, 1) := by decide +kernel
theorem dX1_giveBackTo_8 : decode cX1_giveBackTo 8 = .ok (.aload_n 0, 1) := by decide +kernel
theorem dX1_giveBackTo_9 : decode cX1_giveBackTo 9 = .ok (.aload_n 0, 1) := by decide +kernel
theorem dX1_giveBackTo_10 : decode cX1_giveBackTo 10 = .ok (.getfield 17, 3) := by decide +kernel
theorem dX1_giveBackTo_13 : decode cX1_giveBackTo 13 = .ok (.iconst 5, 1) := by decide +kernel
theorem dX1_giveBackTo_14 : decode cX1_giveBackTo 14 = .ok (.iadd, 1) := by decide +kernel
theorem dX1_giveBackTo_15 : decode cX1_giveBackTo 15 = .ok (.iconst 1, 1) := by decide +kernel
theorem dX1_giveBackTo_16 : decode cX1_giveBackTo 16 = .ok (.isub, 1) := by decide +kernel
theorem dX1_giveBackTo_17 : decode cX1_giveBackTo 17 = .ok (.iconst 5, 1) := by decide +kernel
theorem dX1_giveBackTo_18 : decode cX1_giveBackTo 18 = .ok (.irem, 1) := by decide +kernel
theorem dX1_giveBackTo_19 : decode cX1_giveBackTo 19 = .ok (.putfield 17, 3) := by decide +kernel
theorem dX1_giveBackTo_22 : decode cX1_giveBackTo 22 = .ok (.aload_n 0, 1) := by decide +kernel
theorem dX1_giveBackTo_23 : decode cX1_giveBackTo 23 = .ok (.dup, 1) := by decide +kernel
theorem dX1_giveBackTo_24 : decode cX1_giveBackTo 24 = .ok (.getfield 21, 3) := by decide +kernel
theorem dX1_giveBackTo_27 : decode cX1_giveBackTo 27 = .ok (.iconst 1, 1) := by decide +kernel
theorem dX1_giveBackTo_28 : decode cX1_giveBackTo 28 = .ok (.isub, 1) := by decide +kernel
theorem dX1_giveBackTo_29 : decode cX1_giveBackTo 29 = .ok (.putfield 21, 3) := by decide +kernel
theorem dX1_giveBackTo_32 : decode cX1_giveBackTo 32 = .ok (.aload_n 1, 1) := by decide +kernel
theorem dX1_giveBackTo_33 : decode cX1_giveBackTo 33 = .ok (.aload_n 0, 1) := by decide +kernel
theorem dX1_giveBackTo_34 : decode cX1_giveBackTo 34 = .ok (.getfield 11, 3) := by decide +kernel
theorem dX1_giveBackTo_37 : decode cX1_giveBackTo 37 = .ok (.aload_n 0, 1) := by decide +kernel
theorem dX1_giveBackTo_38 : decode cX1_giveBackTo 38 = .ok (.getfield 17, 3) := by decide +kernel
theorem dX1_giveBackTo_41 : decode cX1_giveBackTo 41 = .ok (.aaload, 1) := by decide +kernel
theorem dX1_giveBackTo_42 : decode cX1_giveBackTo 42 = .ok (.invokevirtual 25, 3) := by decide +kernel
theorem dX1_giveBackTo_45 : decode cX1_giveBackTo 45 = .ok (.return_, 1) := by decide +kernel
theorem dX2_init_0 : decode cX2_init 0 = .ok (.aload_n 0, 1) := by decide +kernel
theorem dX2_init_1 : decode cX2_init 1 = .ok (.invokespecial 3, 3) := by decide +kernel
theorem dX2_init_4 : decode cX2_init 4 = .ok (.aload_n 0, 1) := by decide +kernel
theorem dX2_init_5 : decode cX2_init 5 = .ok (.bipush 120, 2) := by decide +kernel
theorem dX2_init_7 : decode cX2_init 7 = .ok (.newarray .byte, 2) := by decide +kernel
theorem dX2_init_9 : decode cX2_init 9 = .ok (.putfield 9, 3) := by decide +kernel
theorem dX2_init_12 : decode cX2_init 12 = .ok (.aload_n 0, 1) := by decide +kernel
theorem dX2_init_13 : decode cX2_init 13 = .ok (.iconst 0, 1) := by decide +kernel
theorem dX2_init_14 : decode cX2_init 14 = .ok (.putfield 15, 3) := by decide +kernel
theorem dX2_init_17 : decode cX2_init 17 = .ok (.return_, 1) := by decide +kernel
theorem dX2_add_0 : decode cX2_add 0 = .ok (.iload_n 1, 1) := by decide +kernel
theorem dX2_add_1 : decode cX2_add 1 = .ok (.i2l, 1) := by decide +kernel
theorem dX2_add_2 : decode cX2_add 2 = .ok (.lconst 0, 1) := by decide +kernel
theorem dX2_add_3 : decode cX2_add 3 = .ok (.ldc2_w 19, 3) := by decide +kernel
theorem dX2_add_6 : decode cX2_add 6 = .ok (.invokestatic 21, 3) := by decide +kernel
theorem dX2_add_9 : decode cX2_add 9 = .ok (.ifCond .ne 6, 3) := by decide +kernel
theorem dX2_add_12 : decode cX2_add 12 = .ok (.bipush (-2), 2) := by decide +kernel
theorem dX2_add_14 : decode cX2_add 14 = .ok (.ireturn, 1) := by decide +kernel
theorem dX2_add_15 : decode cX2_add 15 = .ok (.aload_n 0, 1) := by decide +kernel
theorem dX2_add_16 : decode cX2_add 16 = .ok (.getfield 15, 3) := by decide +kernel
theorem dX2_add_19 : decode cX2_add 19 = .ok (.bipush 120, 2) := by decide +kernel
theorem dX2_add_21 : decode cX2_add 21 = .ok (.if_icmp .lt 6, 3) := by decide +kernel
theorem dX2_add_24 : decode cX2_add 24 = .ok (.bipush (-4), 2) := by decide +kernel
theorem dX2_add_26 : decode cX2_add 26 = .ok (.ireturn, 1) := by decide +kernel
theorem dX2_add_27 : decode cX2_add 27 = .ok (.aload_n 0, 1) := by decide +kernel
theorem dX2_add_28 : decode cX2_add 28 = .ok (.getfield 9, 3) := by decide +kernel
theorem dX2_add_31 : decode cX2_add 31 = .ok (.aload_n 0, 1) := by decide +kernel
theorem dX2_add_32 : decode cX2_add 32 = .ok (.getfield 15, 3) := by decide +kernel
theorem dX2_add_35 : decode cX2_add 35 = .ok (.iload_n 1, 1) := by decide +kernel
theorem dX2_add_36 : decode cX2_add 36 = .ok (.i2b, 1) := by decide +kernel
theorem dX2_add_37 : decode cX2_add 37 = .ok (.bastore, 1) := by decide +kernel
theorem dX2_add_38 : decode cX2_add 38 = .ok (.aload_n 0, 1) := by decide +kernel
theorem dX2_add_39 : decode cX2_add 39 = .ok (.dup, 1) := by decide +kernel
theorem dX2_add_40 : decode cX2_add 40 = .ok (.getfield 15, 3) := by decide +kernel
theorem dX2_add_43 : decode cX2_add 43 = .ok (.iconst 1, 1) := by decide +kernel
theorem dX2_add_44 : decode cX2_add 44 = .ok (.iadd, 1) := by decide +kernel
theorem dX2_add_45 : decode cX2_add 45 = .ok (.putfield 15, 3) := by decide +kernel
theorem dX2_add_48 : decode cX2_add 48 = .ok (.aload_n 0, 1) := by decide +kernel
theorem dX2_add_49 : decode cX2_add 49 = .ok (.getfield 15, 3) := by decide +kernel
theorem dX2_add_52 : decode cX2_add 52 = .ok (.ireturn, 1) := by decide +kernel
theorem dX2_empty_0 : decode cX2_empty 0 = .ok (.aload_n 0, 1) := by decide +kernel
theorem dX2_empty_1 : decode cX2_empty 1 = .ok (.getfield 15, 3) := by decide +kernel
theorem dX2_empty_4 : decode cX2_empty 4 = .ok (.istore_n 1, 1) := by decide +kernel
theorem dX2_empty_5 : decode cX2_empty 5 = .ok (.aload_n 0, 1) := by decide +kernel
theorem dX2_empty_6 : decode cX2_empty 6 = .ok (.iconst 0, 1) := by decide +kernel
theorem dX2_empty_7 : decode cX2_empty 7 = .ok (.putfield 15, 3) := by decide +kernel
theorem dX2_empty_10 : decode cX2_empty 10 = .ok (.iload_n 1, 1) := by decide +kernel
theorem dX2_empty_11 : decode cX2_empty 11 = .ok (.ireturn, 1) := by decide +kernel
theorem dX2_at_0 : decode cX2_at 0 = .ok (.iload_n 1, 1) := by decide +kernel
theorem dX2_at_1 : decode cX2_at 1 = .ok (.i2l, 1) := by decide +kernel
theorem dX2_at_2 : decode cX2_at 2 = .ok (.lconst 0, 1) := by decide +kernel
theorem dX2_at_3 : decode cX2_at 3 = .ok (.aload_n 0, 1) := by decide +kernel
theorem dX2_at_4 : decode cX2_at 4 = .ok (.getfield 15, 3) := by decide +kernel
theorem dX2_at_7 : decode cX2_at 7 = .ok (.iconst 1, 1) := by decide +kernel
theorem dX2_at_8 : decode cX2_at 8 = .ok (.isub, 1) := by decide +kernel
theorem dX2_at_9 : decode cX2_at 9 = .ok (.i2l, 1) := by decide +kernel
theorem dX2_at_10 : decode cX2_at 10 = .ok (.invokestatic 21, 3) := by decide +kernel
theorem dX2_at_13 : decode cX2_at 13 = .ok (.ifCond .eq 12, 3) := by decide +kernel
theorem dX2_at_16 : decode cX2_at 16 = .ok (.aload_n 0, 1) := by decide +kernel
theorem dX2_at_17 : decode cX2_at 17 = .ok (.getfield 9, 3) := by decide +kernel
theorem dX2_at_20 : decode cX2_at 20 = .ok (.iload_n 1, 1) := by decide +kernel
theorem dX2_at_21 : decode cX2_at 21 = .ok (.baload, 1) := by decide +kernel
theorem dX2_at_22 : decode cX2_at 22 = .ok (.goto 4, 3) := by decide +kernel
theorem dX2_at_25 : decode cX2_at 25 = .ok (.iconst (-1), 1) := by decide +kernel
theorem dX2_at_26 : decode cX2_at 26 = .ok (.ireturn, 1) := by decide +kernel
theorem dX3_init_0 : decode cX3_init 0 = .ok (.aload_n 0, 1) := by decide +kernel
theorem dX3_init_1 : decode cX3_init 1 = .ok (.invokespecial 3, 3) := by decide +kernel
theorem dX3_init_4 : decode cX3_init 4 = .ok (.aload_n 0, 1) := by decide +kernel
theorem dX3_init_5 : decode cX3_init 5 = .ok (.bipush 6, 2) := by decide +kernel
theorem dX3_init_7 : decode cX3_init 7 = .ok (.newarray .int, 2) := by decide +kernel
theorem dX3_init_9 : decode cX3_init 9 = .ok (.putfield 9, 3) := by decide +kernel
theorem dX3_init_12 : decode cX3_init 12 = .ok (.aload_n 0, 1) := by decide +kernel
theorem dX3_init_13 : decode cX3_init 13 = .ok (.bipush 6, 2) := by decide +kernel
theorem dX3_init_15 : decode cX3_init 15 = .ok (.newarray .int, 2) := by decide +kernel
theorem dX3_init_17 : decode cX3_init 17 = .ok (.putfield 15, 3) := by decide +kernel
theorem dX3_init_20 : decode cX3_init 20 = .ok (.aload_n 0, 1) := by decide +kernel
theorem dX3_init_21 : decode cX3_init 21 = .ok (.bipush 12, 2) := by decide +kernel
theorem dX3_init_23 : decode cX3_init 23 = .ok (.newarray .int, 2) := by decide +kernel
theorem dX3_init_25 : decode cX3_init 25 = .ok (.putfield 18, 3) := by decide +kernel
theorem dX3_init_28 : decode cX3_init 28 = .ok (.aload_n 0, 1) := by decide +kernel
theorem dX3_init_29 : decode cX3_init 29 = .ok (.bipush 7, 2) := by decide +kernel
theorem dX3_init_31 : decode cX3_init 31 = .ok (.newarray .int, 2) := by decide +kernel
theorem dX3_init_33 : decode cX3_init 33 = .ok (.putfield 21, 3) := by decide +kernel
theorem dX3_init_36 : decode cX3_init 36 = .ok (.aload_n 0, 1) := by decide +kernel
theorem dX3_init_37 : decode cX3_init 37 = .ok (.iconst 0, 1) := by decide +kernel
theorem dX3_init_38 : decode cX3_init 38 = .ok (.putfield 24, 3) := by decide +kernel
theorem dX3_init_41 : decode cX3_init 41 = .ok (.aload_n 0, 1) := by decide +kernel
theorem dX3_init_42 : decode cX3_init 42 = .ok (.bipush 12, 2) := by decide +kernel
theorem dX3_init_44 : decode cX3_init 44 = .ok (.putfield 28, 3) := by decide +kernel
theorem dX3_init_47 : decode cX3_init 47 = .ok (.aload_n 0, 1) := by decide +kernel
theorem dX3_init_48 : decode cX3_init 48 = .ok (.iconst 0, 1) := by decide +kernel
theorem dX3_init_49 : decode cX3_init 49 = .ok (.putfield 31, 3) := by decide +kernel
theorem dX3_init_52 : decode cX3_init 52 = .ok (.aload_n 0, 1) := by decide +kernel
theorem dX3_init_53 : decode cX3_init 53 = .ok (.iconst 0, 1) := by decide +kernel
theorem dX3_init_54 : decode cX3_init 54 = .ok (.putfield 34, 3) := by decide +kernel
theorem dX3_init_57 : decode cX3_init 57 = .ok (.return_, 1) := by decide +kernel
theorem dX3_copyFrom_0 : decode cX3_copyFrom 0 = .ok (.aload_n 1, 1) := by decide +kernel
theorem dX3_copyFrom_1 : decode cX3_copyFrom 1 = .ok (.getfield 9, 3) := by decide +kernel
theorem dX3_copyFrom_4 : decode cX3_copyFrom 4 = .ok (.iconst 0, 1) := by decide +kernel
theorem dX3_copyFrom_5 : decode cX3_copyFrom 5 = .ok (.aload_n 0, 1) := by decide +kernel
theorem dX3_copyFrom_6 : decode cX3_copyFrom 6 = .ok (.getfield 9, 3) := by decide +kernel
theorem dX3_copyFrom_9 : decode cX3_copyFrom 9 = .ok (.iconst 0, 1) := by decide +kernel
theorem dX3_copyFrom_10 : decode cX3_copyFrom 10 = .ok (.bipush 6, 2) := by decide +kernel
theorem dX3_copyFrom_12 : decode cX3_copyFrom 12 = .ok (.invokestatic 37, 3) := by decide +kernel
theorem dX3_copyFrom_15 : decode cX3_copyFrom 15 = .ok (.aload_n 1, 1) := by decide +kernel
theorem dX3_copyFrom_16 : decode cX3_copyFrom 16 = .ok (.getfield 15, 3) := by decide +kernel
theorem dX3_copyFrom_19 : decode cX3_copyFrom 19 = .ok (.iconst 0, 1) := by decide +kernel
theorem dX3_copyFrom_20 : decode cX3_copyFrom 20 = .ok (.aload_n 0, 1) := by decide +kernel
theorem dX3_copyFrom_21 : decode cX3_copyFrom 21 = .ok (.getfield 15, 3) := by decide +kernel
theorem dX3_copyFrom_24 : decode cX3_copyFrom 24 = .ok (.iconst 0, 1) := by decide +kernel
theorem dX3_copyFrom_25 : decode cX3_copyFrom 25 = .ok (.bipush 6, 2) := by decide +kernel
theorem dX3_copyFrom_27 : decode cX3_copyFrom 27 = .ok (.invokestatic 37, 3) := by decide +kernel
theorem dX3_copyFrom_30 : decode cX3_copyFrom 30 = .ok (.aload_n 1, 1) := by decide +kernel
theorem dX3_copyFrom_31 : decode cX3_copyFrom 31 = .ok (.getfield 18, 3) := by decide +kernel
theorem dX3_copyFrom_34 : decode cX3_copyFrom 34 = .ok (.iconst 0, 1) := by decide +kernel
theorem dX3_copyFrom_35 : decode cX3_copyFrom 35 = .ok (.aload_n 0, 1) := by decide +kernel
theorem dX3_copyFrom_36 : decode cX3_copyFrom 36 = .ok (.getfield 18, 3) := by decide +kernel
theorem dX3_copyFrom_39 : decode cX3_copyFrom 39 = .ok (.iconst 0, 1) := by decide +kernel
theorem dX3_copyFrom_40 : decode cX3_copyFrom 40 = .ok (.bipush 12, 2) := by decide +kernel
theorem dX3_copyFrom_42 : decode cX3_copyFrom 42 = .ok (.invokestatic 37, 3) := by decide +kernel
theorem dX3_copyFrom_45 : decode cX3_copyFrom 45 = .ok (.aload_n 1, 1) := by decide +kernel
theorem dX3_copyFrom_46 : decode cX3_copyFrom 46 = .ok (.getfield 21, 3) := by decide +kernel
theorem dX3_copyFrom_49 : decode cX3_copyFrom 49 = .ok (.iconst 0, 1) := by decide +kernel
theorem dX3_copyFrom_50 : decode cX3_copyFrom 50 = .ok (.aload_n 0, 1) := by decide +kernel
theorem dX3_copyFrom_51 : decode cX3_copyFrom 51 = .ok (.getfield 21, 3) := by decide +kernel
theorem dX3_copyFrom_54 : decode cX3_copyFrom 54 = .ok (.iconst 0, 1) := by decide +kernel
theorem dX3_copyFrom_55 : decode cX3_copyFrom 55 = .ok (.bipush 7, 2) := by decide +kernel
theorem dX3_copyFrom_57 : decode cX3_copyFrom 57 = .ok (.invokestatic 37, 3) := by decide +kernel
theorem dX3_copyFrom_60 : decode cX3_copyFrom 60 = .ok (.aload_n 0, 1) := by decide +kernel
theorem dX3_copyFrom_61 : decode cX3_copyFrom 61 = .ok (.aload_n 1, 1) := by decide +kernel
theorem dX3_copyFrom_62 : decode cX3_copyFrom 62 = .ok (.getfield 24, 3) := by decide +kernel
theorem dX3_copyFrom_65 : decode cX3_copyFrom 65 = .ok (.putfield 24, 3) := by decide +kernel
theorem dX3_copyFrom_68 : decode cX3_copyFrom 68 = .ok (.aload_n 0, 1) := by decide +kernel
theorem dX3_copyFrom_69 : decode cX3_copyFrom 69 = .ok (.aload_n 1, 1) := by decide +kernel
theorem dX3_copyFrom_70 : decode cX3_copyFrom 70 = .ok (.getfield 28, 3) := by decide +kernel
theorem dX3_copyFrom_73 : decode cX3_copyFrom 73 = .ok (.putfield 28, 3) := by decide +kernel
theorem dX3_copyFrom_76 : decode cX3_copyFrom 76 = .ok (.aload_n 0, 1) := by decide +kernel
theorem dX3_copyFrom_77 : decode cX3_copyFrom 77 = .ok (.aload_n 1, 1) := by decide +kernel
theorem dX3_copyFrom_78 : decode cX3_copyFrom 78 = .ok (.getfield 31, 3) := by decide +kernel
theorem dX3_copyFrom_81 : decode cX3_copyFrom 81 = .ok (.putfield 31, 3) := by decide +kernel
theorem dX3_copyFrom_84 : decode cX3_copyFrom 84 = .ok (.aload_n 0, 1) := by decide +kernel
theorem dX3_copyFrom_85 : decode cX3_copyFrom 85 = .ok (.aload_n 1, 1) := by decide +kernel
theorem dX3_copyFrom_86 : decode cX3_copyFrom 86 = .ok (.getfield 34, 3) := by decide +kernel
theorem dX3_copyFrom_89 : decode cX3_copyFrom 89 = .ok (.putfield 34, 3) := by decide +kernel
theorem dX3_copyFrom_92 : decode cX3_copyFrom 92 = .ok (.return_, 1) := by decide +kernel
theorem dX3_setDrum_0 : decode cX3_setDrum 0 = .ok (.iload_n 1, 1) := by decide +kernel
theorem dX3_setDrum_1 : decode cX3_setDrum 1 = .ok (.i2l, 1) := by decide +kernel
theorem dX3_setDrum_2 : decode cX3_setDrum 2 = .ok (.lconst 0, 1) := by decide +kernel
theorem dX3_setDrum_3 : decode cX3_setDrum 3 = .ok (.ldc2_w 43, 3) := by decide +kernel
theorem dX3_setDrum_6 : decode cX3_setDrum 6 = .ok (.invokestatic 45, 3) := by decide +kernel
theorem dX3_setDrum_9 : decode cX3_setDrum 9 = .ok (.ifCond .eq 15, 3) := by decide +kernel
theorem dX3_setDrum_12 : decode cX3_setDrum 12 = .ok (.iload_n 2, 1) := by decide +kernel
theorem dX3_setDrum_13 : decode cX3_setDrum 13 = .ok (.i2l, 1) := by decide +kernel
theorem dX3_setDrum_14 : decode cX3_setDrum 14 = .ok (.lconst 0, 1) := by decide +kernel
theorem dX3_setDrum_15 : decode cX3_setDrum 15 = .ok (.ldc2_w 49, 3) := by decide +kernel
theorem dX3_setDrum_18 : decode cX3_setDrum 18 = .ok (.invokestatic 45, 3) := by decide +kernel
theorem dX3_setDrum_21 : decode cX3_setDrum 21 = .ok (.ifCond .ne 6, 3) := by decide +kernel
theorem dX3_setDrum_24 : decode cX3_setDrum 24 = .ok (.bipush (-2), 2) := by decide +kernel
theorem dX3_setDrum_26 : decode cX3_setDrum 26 = .ok (.ireturn, 1) := by decide +kernel
theorem dX3_setDrum_27 : decode cX3_setDrum 27 = .ok (.aload_n 0, 1) := by decide +kernel
theorem dX3_setDrum_28 : decode cX3_setDrum 28 = .ok (.getfield 9, 3) := by decide +kernel
theorem dX3_setDrum_31 : decode cX3_setDrum 31 = .ok (.iload_n 1, 1) := by decide +kernel
theorem dX3_setDrum_32 : decode cX3_setDrum 32 = .ok (.iaload, 1) := by decide +kernel
theorem dX3_setDrum_33 : decode cX3_setDrum 33 = .ok (.istore_n 3, 1) := by decide +kernel
theorem dX3_setDrum_34 : decode cX3_setDrum 34 = .ok (.aload_n 0, 1) := by decide +kernel
theorem dX3_setDrum_35 : decode cX3_setDrum 35 = .ok (.getfield 9, 3) := by decide +kernel
theorem dX3_setDrum_38 : decode cX3_setDrum 38 = .ok (.iload_n 1, 1) := by decide +kernel
theorem dX3_setDrum_39 : decode cX3_setDrum 39 = .ok (.iload_n 2, 1) := by decide +kernel
theorem dX3_setDrum_40 : decode cX3_setDrum 40 = .ok (.iastore, 1) := by decide +kernel
theorem dX3_setDrum_41 : decode cX3_setDrum 41 = .ok (.iload_n 3, 1) := by decide +kernel
theorem dX3_setDrum_42 : decode cX3_setDrum 42 = .ok (.ireturn, 1) := by decide +kernel
theorem dX3_setDrums_0 : decode cX3_setDrums 0 = .ok (.iload_n 1, 1) := by decide +kernel
theorem dX3_setDrums_1 : decode cX3_setDrums 1 = .ok (.i2l, 1) := by decide +kernel
theorem dX3_setDrums_2 : decode cX3_setDrums 2 = .ok (.lconst 0, 1) := by decide +kernel
theorem dX3_setDrums_3 : decode cX3_setDrums 3 = .ok (.ldc2_w 51, 3) := by decide +kernel
theorem dX3_setDrums_6 : decode cX3_setDrums 6 = .ok (.invokestatic 45, 3) := by decide +kernel
theorem dX3_setDrums_9 : decode cX3_setDrums 9 = .ok (.ifCond .ne 6, 3) := by decide +kernel
theorem dX3_setDrums_12 : decode cX3_setDrums 12 = .ok (.bipush (-2), 2) := by decide +kernel
theorem dX3_setDrums_14 : decode cX3_setDrums 14 = .ok (.ireturn, 1) := by decide +kernel
theorem dX3_setDrums_15 : decode cX3_setDrums 15 = .ok (.aload_n 0, 1) := by decide +kernel
theorem dX3_setDrums_16 : decode cX3_setDrums 16 = .ok (.getfield 9, 3) := by decide +kernel
theorem dX3_setDrums_19 : decode cX3_setDrums 19 = .ok (.invokestatic 53, 3) := by decide +kernel
theorem dX3_setDrums_22 : decode cX3_setDrums 22 = .ok (.l2i, 1) := by decide +kernel
theorem dX3_setDrums_23 : decode cX3_setDrums 23 = .ok (.istore_n 2, 1) := by decide +kernel
theorem dX3_setDrums_24 : decode cX3_setDrums 24 = .ok (.aload_n 0, 1) := by decide +kernel
theorem dX3_setDrums_25 : decode cX3_setDrums 25 = .ok (.getfield 9, 3) := by decide +kernel
theorem dX3_setDrums_28 : decode cX3_setDrums 28 = .ok (.iload_n 1, 1) := by decide +kernel
theorem dX3_setDrums_29 : decode cX3_setDrums 29 = .ok (.i2l, 1) := by decide +kernel
theorem dX3_setDrums_30 : decode cX3_setDrums 30 = .ok (.invokestatic 57, 3) := by decide +kernel
theorem dX3_setDrums_33 : decode cX3_setDrums 33 = .ok (.pop, 1) := by decide +kernel
theorem dX3_setDrums_34 : decode cX3_setDrums 34 = .ok (.iload_n 2, 1) := by decide +kernel
theorem dX3_setDrums_35 : decode cX3_setDrums 35 = .ok (.ireturn, 1) := by decide +kernel
theorem dX3_setShift_0 : decode cX3_setShift 0 = .ok (.iload_n 1, 1) := by decide +kernel
theorem dX3_setShift_1 : decode cX3_setShift 1 = .ok (.i2l, 1) := by decide +kernel
theorem dX3_setShift_2 : decode cX3_setShift 2 = .ok (.lconst 0, 1) := by decide +kernel
theorem dX3_setShift_3 : decode cX3_setShift 3 = .ok (.ldc2_w 61, 3) := by decide +kernel
theorem dX3_setShift_6 : decode cX3_setShift 6 = .ok (.invokestatic 45, 3) := by decide +kernel
theorem dX3_setShift_9 : decode cX3_setShift 9 = .ok (.ifCond .ne 6, 3) := by decide +kernel
theorem dX3_setShift_12 : decode cX3_setShift 12 = .ok (.bipush (-2), 2) := by decide +kernel
theorem dX3_setShift_14 : decode cX3_setShift 14 = .ok (.ireturn, 1) := by decide +kernel
theorem dX3_setShift_15 : decode cX3_setShift 15 = .ok (.aload_n 0, 1) := by decide +kernel
theorem dX3_setShift_16 : decode cX3_setShift 16 = .ok (.getfield 24, 3) := by decide +kernel
theorem dX3_setShift_19 : decode cX3_setShift 19 = .ok (.istore_n 2, 1) := by decide +kernel
theorem dX3_setShift_20 : decode cX3_setShift 20 = .ok (.aload_n 0, 1) := by decide +kernel
theorem dX3_setShift_21 : decode cX3_setShift 21 = .ok (.iload_n 1, 1) := by decide +kernel
theorem dX3_setShift_22 : decode cX3_setShift 22 = .ok (.putfield 24, 3) := by decide +kernel
theorem dX3_setShift_25 : decode cX3_setShift 25 = .ok (.iload_n 2, 1) := by decide +kernel
theorem dX3_setShift_26 : decode cX3_setShift 26 = .ok (.ireturn, 1) := by decide +kernel
theorem dX3_setReach_0 : decode cX3_setReach 0 = .ok (.iload_n 1, 1) := by decide +kernel
theorem dX3_setReach_1 : decode cX3_setReach 1 = .ok (.i2l, 1) := by decide +kernel
theorem dX3_setReach_2 : decode cX3_setReach 2 = .ok (.lconst 0, 1) := by decide +kernel
theorem dX3_setReach_3 : decode cX3_setReach 3 = .ok (.ldc2_w 63, 3) := by decide +kernel
theorem dX3_setReach_6 : decode cX3_setReach 6 = .ok (.invokestatic 45, 3) := by decide +kernel
theorem dX3_setReach_9 : decode cX3_setReach 9 = .ok (.ifCond .ne 6, 3) := by decide +kernel
theorem dX3_setReach_12 : decode cX3_setReach 12 = .ok (.bipush (-2), 2) := by decide +kernel
theorem dX3_setReach_14 : decode cX3_setReach 14 = .ok (.ireturn, 1) := by decide +kernel
theorem dX3_setReach_15 : decode cX3_setReach 15 = .ok (.aload_n 0, 1) := by decide +kernel
theorem dX3_setReach_16 : decode cX3_setReach 16 = .ok (.getfield 28, 3) := by decide +kernel
theorem dX3_setReach_19 : decode cX3_setReach 19 = .ok (.istore_n 2, 1) := by decide +kernel
theorem dX3_setReach_20 : decode cX3_setReach 20 = .ok (.aload_n 0, 1) := by decide +kernel
theorem dX3_setReach_21 : decode cX3_setReach 21 = .ok (.iload_n 1, 1) := by decide +kernel
theorem dX3_setReach_22 : decode cX3_setReach 22 = .ok (.putfield 28, 3) := by decide +kernel
theorem dX3_setReach_25 : decode cX3_setReach 25 = .ok (.iload_n 2, 1) := by decide +kernel
theorem dX3_setReach_26 : decode cX3_setReach 26 = .ok (.ireturn, 1) := by decide +kernel
theorem dX3_wearTooth_0 : decode cX3_wearTooth 0 = .ok (.iload_n 1, 1) := by decide +kernel
theorem dX3_wearTooth_1 : decode cX3_wearTooth 1 = .ok (.i2l, 1) := by decide +kernel
theorem dX3_wearTooth_2 : decode cX3_wearTooth 2 = .ok (.lconst 0, 1) := by decide +kernel
theorem dX3_wearTooth_3 : decode cX3_wearTooth 3 = .ok (.ldc2_w 43, 3) := by decide +kernel
theorem dX3_wearTooth_6 : decode cX3_wearTooth 6 = .ok (.invokestatic 45, 3) := by decide +kernel
theorem dX3_wearTooth_9 : decode cX3_wearTooth 9 = .ok (.ifCond .eq 15, 3) := by decide +kernel
theorem dX3_wearTooth_12 : decode cX3_wearTooth 12 = .ok (.iload_n 2, 1) := by decide +kernel
theorem dX3_wearTooth_13 : decode cX3_wearTooth 13 = .ok (.i2l, 1) := by decide +kernel
theorem dX3_wearTooth_14 : decode cX3_wearTooth 14 = .ok (.lconst 1, 1) := by decide +kernel
theorem dX3_wearTooth_15 : decode cX3_wearTooth 15 = .ok (.ldc2_w 49, 3) := by decide +kernel
theorem dX3_wearTooth_18 : decode cX3_wearTooth 18 = .ok (.invokestatic 45, 3) := by decide +kernel
theorem dX3_wearTooth_21 : decode cX3_wearTooth 21 = .ok (.ifCond .ne 6, 3) := by decide +kernel
theorem dX3_wearTooth_24 : decode cX3_wearTooth 24 = .ok (.bipush (-2), 2) := by decide +kernel
theorem dX3_wearTooth_26 : decode cX3_wearTooth 26 = .ok (.ireturn, 1) := by decide +kernel
theorem dX3_wearTooth_27 : decode cX3_wearTooth 27 = .ok (.aload_n 0, 1) := by decide +kernel
theorem dX3_wearTooth_28 : decode cX3_wearTooth 28 = .ok (.getfield 15, 3) := by decide +kernel
theorem dX3_wearTooth_31 : decode cX3_wearTooth 31 = .ok (.iload_n 1, 1) := by decide +kernel
theorem dX3_wearTooth_32 : decode cX3_wearTooth 32 = .ok (.dup2, 1) := by decide +kernel
theorem dX3_wearTooth_33 : decode cX3_wearTooth 33 = .ok (.iaload, 1) := by decide +kernel
theorem dX3_wearTooth_34 : decode cX3_wearTooth 34 = .ok (.iconst 1, 1) := by decide +kernel
theorem dX3_wearTooth_35 : decode cX3_wearTooth 35 = .ok (.iload_n 2, 1) := by decide +kernel
theorem dX3_wearTooth_36 : decode cX3_wearTooth 36 = .ok (.ishl, 1) := by decide +kernel
theorem dX3_wearTooth_37 : decode cX3_wearTooth 37 = .ok (.ixor, 1) := by decide +kernel
theorem dX3_wearTooth_38 : decode cX3_wearTooth 38 = .ok (.iastore, 1) := by decide +kernel
theorem dX3_wearTooth_39 : decode cX3_wearTooth 39 = .ok (.aload_n 0, 1) := by decide +kernel
theorem dX3_wearTooth_40 : decode cX3_wearTooth 40 = .ok (.getfield 15, 3) := by decide +kernel
theorem dX3_wearTooth_43 : decode cX3_wearTooth 43 = .ok (.iload_n 1, 1) := by decide +kernel
theorem dX3_wearTooth_44 : decode cX3_wearTooth 44 = .ok (.iaload, 1) := by decide +kernel
theorem dX3_wearTooth_45 : decode cX3_wearTooth 45 = .ok (.invokestatic 65, 3) := by decide +kernel
theorem dX3_wearTooth_48 : decode cX3_wearTooth 48 = .ok (.ireturn, 1) := by decide +kernel
theorem dX3_clearAll_0 : decode cX3_clearAll 0 = .ok (.aload_n 0, 1) := by decide +kernel
theorem dX3_clearAll_1 : decode cX3_clearAll 1 = .ok (.getfield 21, 3) := by decide +kernel
theorem dX3_clearAll_4 : decode cX3_clearAll 4 = .ok (.iconst 0, 1) := by decide +kernel
theorem dX3_clearAll_5 : decode cX3_clearAll 5 = .ok (.invokestatic 71, 3) := by decide +kernel
theorem dX3_clearAll_8 : decode cX3_clearAll 8 = .ok (.aload_n 0, 1) := by decide +kernel
theorem dX3_clearAll_9 : decode cX3_clearAll 9 = .ok (.getfield 18, 3) := by decide +kernel
theorem dX3_clearAll_12 : decode cX3_clearAll 12 = .ok (.lconst 0, 1) := by decide +kernel
theorem dX3_clearAll_13 : decode cX3_clearAll 13 = .ok (.invokestatic 57, 3) := by decide +kernel
theorem dX3_clearAll_16 : decode cX3_clearAll 16 = .ok (.ireturn, 1) := by decide +kernel
theorem dX3_layWheels_0 : decode cX3_layWheels 0 = .ok (.lload_n 1, 1) := by decide +kernel
theorem dX3_layWheels_1 : decode cX3_layWheels 1 = .ok (.lconst 0, 1) := by decide +kernel
theorem dX3_layWheels_2 : decode cX3_layWheels 2 = .ok (.ldc2_w 77, 3) := by decide +kernel
theorem dX3_layWheels_5 : decode cX3_layWheels 5 = .ok (.invokestatic 45, 3) := by decide +kernel
theorem dX3_layWheels_8 : decode cX3_layWheels 8 = .ok (.ifCond .eq 14, 3) := by decide +kernel
theorem dX3_layWheels_11 : decode cX3_layWheels 11 = .ok (.aload_n 0, 1) := by decide +kernel
theorem dX3_layWheels_12 : decode cX3_layWheels 12 = .ok (.getfield 18, 3) := by decide +kernel
theorem dX3_layWheels_15 : decode cX3_layWheels 15 = .ok (.lload_n 1, 1) := by decide +kernel
theorem dX3_layWheels_16 : decode cX3_layWheels 16 = .ok (.invokestatic 57, 3) := by decide +kernel
theorem dX3_layWheels_19 : decode cX3_layWheels 19 = .ok (.goto 5, 3) := by decide +kernel
theorem dX3_layWheels_22 : decode cX3_layWheels 22 = .ok (.bipush (-2), 2) := by decide +kernel
theorem dX3_layWheels_24 : decode cX3_layWheels 24 = .ok (.ireturn, 1) := by decide +kernel
theorem dX3_turnOften_0 : decode cX3_turnOften 0 = .ok (.iload_n 1, 1) := by decide +kernel
theorem dX3_turnOften_1 : decode cX3_turnOften 1 = .ok (.i2l, 1) := by decide +kernel
theorem dX3_turnOften_2 : decode cX3_turnOften 2 = .ok (.lconst 1, 1) := by decide +kernel
theorem dX3_turnOften_3 : decode cX3_turnOften 3 = .ok (.ldc2_w 79, 3) := by decide +kernel
theorem dX3_turnOften_6 : decode cX3_turnOften 6 = .ok (.invokestatic 45, 3) := by decide +kernel
theorem dX3_turnOften_9 : decode cX3_turnOften 9 = .ok (.ifCond .ne 6, 3) := by decide +kernel
theorem dX3_turnOften_12 : decode cX3_turnOften 12 = .ok (.bipush (-2), 2) := by decide +kernel
theorem dX3_turnOften_14 : decode cX3_turnOften 14 = .ok (.ireturn, 1) := by decide +kernel
theorem dX3_turnOften_15 : decode cX3_turnOften 15 = .ok (.aload_n 0, 1) := by decide +kernel
theorem dX3_turnOften_16 : decode cX3_turnOften 16 = .ok (.getfield 31, 3) := by decide +kernel
theorem dX3_turnOften_19 : decode cX3_turnOften 19 = .ok (.istore_n 3, 1) := by decide +kernel
theorem dX3_turnOften_20 : decode cX3_turnOften 20 = .ok (.iconst 0, 1) := by decide +kernel
theorem dX3_turnOften_21 : decode cX3_turnOften 21 = .ok (.istore 4, 2) := by decide +kernel
theorem dX3_turnOften_23 : decode cX3_turnOften 23 = .ok (.iload 4, 2) := by decide +kernel
theorem dX3_turnOften_25 : decode cX3_turnOften 25 = .ok (.iload_n 1, 1) := by decide +kernel
theorem dX3_turnOften_26 : decode cX3_turnOften 26 = .ok (.if_icmp .ge 16, 3) := by decide +kernel
theorem dX3_turnOften_29 : decode cX3_turnOften 29 = .ok (.aload_n 0, 1) := by decide +kernel
theorem dX3_turnOften_30 : decode cX3_turnOften 30 = .ok (.iload_n 2, 1) := by decide +kernel
theorem dX3_turnOften_31 : decode cX3_turnOften 31 = .ok (.iload_n 2, 1) := by decide +kernel
theorem dX3_turnOften_32 : decode cX3_turnOften 32 = .ok (.invokevirtual 81, 3) := by decide +kernel
theorem dX3_turnOften_35 : decode cX3_turnOften 35 = .ok (.pop, 1) := by decide +kernel
theorem dX3_turnOften_36 : decode cX3_turnOften 36 = .ok (.iinc 4 1, 3) := by decide +kernel
theorem dX3_turnOften_39 : decode cX3_turnOften 39 = .ok (.goto (-16), 3) := by decide +kernel
theorem dX3_turnOften_42 : decode cX3_turnOften 42 = .ok (.aload_n 0, 1) := by decide +kernel
theorem dX3_turnOften_43 : decode cX3_turnOften 43 = .ok (.getfield 31, 3) := by decide +kernel
theorem dX3_turnOften_46 : decode cX3_turnOften 46 = .ok (.iload_n 3, 1) := by decide +kernel
theorem dX3_turnOften_47 : decode cX3_turnOften 47 = .ok (.isub, 1) := by decide +kernel
theorem dX3_turnOften_48 : decode cX3_turnOften 48 = .ok (.ireturn, 1) := by decide +kernel
theorem dX3_multiply_0 : decode cX3_multiply 0 = .ok (.iload_n 1, 1) := by decide +kernel
theorem dX3_multiply_1 : decode cX3_multiply 1 = .ok (.iload_n 2, 1) := by decide +kernel
theorem dX3_multiply_2 : decode cX3_multiply 2 = .ok (.invokestatic 85, 3) := by decide +kernel
theorem dX3_multiply_5 : decode cX3_multiply 5 = .ok (.ifCond .ne 6, 3) := by decide +kernel
theorem dX3_multiply_8 : decode cX3_multiply 8 = .ok (.bipush (-2), 2) := by decide +kernel
theorem dX3_multiply_10 : decode cX3_multiply 10 = .ok (.ireturn, 1) := by decide +kernel
theorem dX3_multiply_11 : decode cX3_multiply 11 = .ok (.aload_n 0, 1) := by decide +kernel
theorem dX3_multiply_12 : decode cX3_multiply 12 = .ok (.getfield 34, 3) := by decide +kernel
theorem dX3_multiply_15 : decode cX3_multiply 15 = .ok (.istore_n 3, 1) := by decide +kernel
theorem dX3_multiply_16 : decode cX3_multiply 16 = .ok (.aload_n 0, 1) := by decide +kernel
theorem dX3_multiply_17 : decode cX3_multiply 17 = .ok (.invokevirtual 88, 3) := by decide +kernel
theorem dX3_multiply_20 : decode cX3_multiply 20 = .ok (.pop, 1) := by decide +kernel
theorem dX3_multiply_21 : decode cX3_multiply 21 = .ok (.iload_n 1, 1) := by decide +kernel
theorem dX3_multiply_22 : decode cX3_multiply 22 = .ok (.istore 4, 2) := by decide +kernel
theorem dX3_multiply_24 : decode cX3_multiply 24 = .ok (.iconst 0, 1) := by decide +kernel
theorem dX3_multiply_25 : decode cX3_multiply 25 = .ok (.istore 5, 2) := by decide +kernel
theorem dX3_multiply_27 : decode cX3_multiply 27 = .ok (.iload 5, 2) := by decide +kernel
theorem dX3_multiply_29 : decode cX3_multiply 29 = .ok (.iload_n 2, 1) := by decide +kernel
theorem dX3_multiply_30 : decode cX3_multiply 30 = .ok (.invokestatic 92, 3) := by decide +kernel
theorem dX3_multiply_33 : decode cX3_multiply 33 = .ok (.if_icmp .ge 72, 3) := by decide +kernel
theorem dX3_multiply_36 : decode cX3_multiply 36 = .ok (.aload_n 0, 1) := by decide +kernel
theorem dX3_multiply_37 : decode cX3_multiply 37 = .ok (.iload 5, 2) := by decide +kernel
theorem dX3_multiply_39 : decode cX3_multiply 39 = .ok (.putfield 24, 3) := by decide +kernel
theorem dX3_multiply_42 : decode cX3_multiply 42 = .ok (.iload 4, 2) := by decide +kernel
theorem dX3_multiply_44 : decode cX3_multiply 44 = .ok (.iload_n 2, 1) := by decide +kernel
theorem dX3_multiply_45 : decode cX3_multiply 45 = .ok (.invokestatic 95, 3) := by decide +kernel
theorem dX3_multiply_48 : decode cX3_multiply 48 = .ok (.istore 6, 2) := by decide +kernel
theorem dX3_multiply_50 : decode cX3_multiply 50 = .ok (.iload 4, 2) := by decide +kernel
theorem dX3_multiply_52 : decode cX3_multiply 52 = .ok (.iload 6, 2) := by decide +kernel
theorem dX3_multiply_54 : decode cX3_multiply 54 = .ok (.invokestatic 99, 3) := by decide +kernel
theorem dX3_multiply_57 : decode cX3_multiply 57 = .ok (.istore 4, 2) := by decide +kernel
theorem dX3_multiply_59 : decode cX3_multiply 59 = .ok (.iload 6, 2) := by decide +kernel
theorem dX3_multiply_61 : decode cX3_multiply 61 = .ok (.ifCond .ge 7, 3) := by decide +kernel
theorem dX3_multiply_64 : decode cX3_multiply 64 = .ok (.iconst (-1), 1) := by decide +kernel
theorem dX3_multiply_65 : decode cX3_multiply 65 = .ok (.goto 4, 3) := by decide +kernel
theorem dX3_multiply_68 : decode cX3_multiply 68 = .ok (.iconst 1, 1) := by decide +kernel
theorem dX3_multiply_69 : decode cX3_multiply 69 = .ok (.istore 7, 2) := by decide +kernel
theorem dX3_multiply_71 : decode cX3_multiply 71 = .ok (.iconst 0, 1) := by decide +kernel
theorem dX3_multiply_72 : decode cX3_multiply 72 = .ok (.istore 8, 2) := by decide +kernel
theorem dX3_multiply_74 : decode cX3_multiply 74 = .ok (.iload 8, 2) := by decide +kernel
theorem dX3_multiply_76 : decode cX3_multiply 76 = .ok (.iload 6, 2) := by decide +kernel
theorem dX3_multiply_78 : decode cX3_multiply 78 = .ok (.invokestatic 102, 3) := by decide +kernel
theorem dX3_multiply_81 : decode cX3_multiply 81 = .ok (.if_icmp .ge 18, 3) := by decide +kernel
theorem dX3_multiply_84 : decode cX3_multiply 84 = .ok (.aload_n 0, 1) := by decide +kernel
theorem dX3_multiply_85 : decode cX3_multiply 85 = .ok (.iload 7, 2) := by decide +kernel
theorem dX3_multiply_87 : decode cX3_multiply 87 = .ok (.iload 7, 2) := by decide +kernel
theorem dX3_multiply_89 : decode cX3_multiply 89 = .ok (.invokevirtual 81, 3) := by decide +kernel
theorem dX3_multiply_92 : decode cX3_multiply 92 = .ok (.pop, 1) := by decide +kernel
theorem dX3_multiply_93 : decode cX3_multiply 93 = .ok (.iinc 8 1, 3) := by decide +kernel
theorem dX3_multiply_96 : decode cX3_multiply 96 = .ok (.goto (-22), 3) := by decide +kernel
theorem dX3_multiply_99 : decode cX3_multiply 99 = .ok (.iinc 5 1, 3) := by decide +kernel
theorem dX3_multiply_102 : decode cX3_multiply 102 = .ok (.goto (-75), 3) := by decide +kernel
theorem dX3_multiply_105 : decode cX3_multiply 105 = .ok (.aload_n 0, 1) := by decide +kernel
theorem dX3_multiply_106 : decode cX3_multiply 106 = .ok (.getfield 34, 3) := by decide +kernel
theorem dX3_multiply_109 : decode cX3_multiply 109 = .ok (.iload_n 3, 1) := by decide +kernel
theorem dX3_multiply_110 : decode cX3_multiply 110 = .ok (.isub, 1) := by decide +kernel
theorem dX3_multiply_111 : decode cX3_multiply 111 = .ok (.ireturn, 1) := by decide +kernel
theorem dX3_divide_0 : decode cX3_divide 0 = .ok (.aload_n 0, 1) := by decide +kernel
theorem dX3_divide_1 : decode cX3_divide 1 = .ok (.invokevirtual 107, 3) := by decide +kernel
theorem dX3_divide_4 : decode cX3_divide 4 = .ok (.ifCond .ne 6, 3) := by decide +kernel
theorem dX3_divide_7 : decode cX3_divide 7 = .ok (.bipush (-3), 2) := by decide +kernel
theorem dX3_divide_9 : decode cX3_divide 9 = .ok (.ireturn, 1) := by decide +kernel
theorem dX3_divide_10 : decode cX3_divide 10 = .ok (.aload_n 0, 1) := by decide +kernel
theorem dX3_divide_11 : decode cX3_divide 11 = .ok (.getfield 34, 3) := by decide +kernel
theorem dX3_divide_14 : decode cX3_divide 14 = .ok (.istore_n 1, 1) := by decide +kernel
theorem dX3_divide_15 : decode cX3_divide 15 = .ok (.aload_n 0, 1) := by decide +kernel
theorem dX3_divide_16 : decode cX3_divide 16 = .ok (.getfield 21, 3) := by decide +kernel
theorem dX3_divide_19 : decode cX3_divide 19 = .ok (.iconst 0, 1) := by decide +kernel
theorem dX3_divide_20 : decode cX3_divide 20 = .ok (.invokestatic 71, 3) := by decide +kernel
theorem dX3_divide_23 : decode cX3_divide 23 = .ok (.bipush 6, 2) := by decide +kernel
theorem dX3_divide_25 : decode cX3_divide 25 = .ok (.istore_n 2, 1) := by decide +kernel
theorem dX3_divide_26 : decode cX3_divide 26 = .ok (.iload_n 2, 1) := by decide +kernel
theorem dX3_divide_27 : decode cX3_divide 27 = .ok (.ifCond .lt 31, 3) := by decide +kernel
theorem dX3_divide_30 : decode cX3_divide 30 = .ok (.aload_n 0, 1) := by decide +kernel
theorem dX3_divide_31 : decode cX3_divide 31 = .ok (.iload_n 2, 1) := by decide +kernel
theorem dX3_divide_32 : decode cX3_divide 32 = .ok (.putfield 24, 3) := by decide +kernel
theorem dX3_divide_35 : decode cX3_divide 35 = .ok (.aload_n 0, 1) := by decide +kernel
theorem dX3_divide_36 : decode cX3_divide 36 = .ok (.invokevirtual 110, 3) := by decide +kernel
theorem dX3_divide_39 : decode cX3_divide 39 = .ok (.ifCond .ne 6, 3) := by decide +kernel
theorem dX3_divide_42 : decode cX3_divide 42 = .ok (.bipush (-3), 2) := by decide +kernel
theorem dX3_divide_44 : decode cX3_divide 44 = .ok (.ireturn, 1) := by decide +kernel
theorem dX3_divide_45 : decode cX3_divide 45 = .ok (.aload_n 0, 1) := by decide +kernel
theorem dX3_divide_46 : decode cX3_divide 46 = .ok (.iconst 1, 1) := by decide +kernel
theorem dX3_divide_47 : decode cX3_divide 47 = .ok (.iconst (-1), 1) := by decide +kernel
theorem dX3_divide_48 : decode cX3_divide 48 = .ok (.invokevirtual 81, 3) := by decide +kernel
theorem dX3_divide_51 : decode cX3_divide 51 = .ok (.pop, 1) := by decide +kernel
theorem dX3_divide_52 : decode cX3_divide 52 = .ok (.iinc 2 (-1), 3) := by decide +kernel
theorem dX3_divide_55 : decode cX3_divide 55 = .ok (.goto (-29), 3) := by decide +kernel
theorem dX3_divide_58 : decode cX3_divide 58 = .ok (.aload_n 0, 1) := by decide +kernel
theorem dX3_divide_59 : decode cX3_divide 59 = .ok (.getfield 34, 3) := by decide +kernel
theorem dX3_divide_62 : decode cX3_divide 62 = .ok (.iload_n 1, 1) := by decide +kernel
theorem dX3_divide_63 : decode cX3_divide 63 = .ok (.isub, 1) := by decide +kernel
theorem dX3_divide_64 : decode cX3_divide 64 = .ok (.ireturn, 1) := by decide +kernel
theorem dX3_turnDownTillBell_0 : decode cX3_turnDownTillBell 0 = .ok (.iconst 0, 1) := by decide +kernel
theorem dX3_turnDownTillBell_1 : decode cX3_turnDownTillBell 1 = .ok (.istore_n 1, 1) := by decide +kernel
theorem dX3_turnDownTillBell_2 : decode cX3_turnDownTillBell 2 = .ok (.iload_n 1, 1) := by decide +kernel
theorem dX3_turnDownTillBell_3 : decode cX3_turnDownTillBell 3 = .ok (.bipush 20, 2) := by decide +kernel
theorem dX3_turnDownTillBell_5 : decode cX3_turnDownTillBell 5 = .ok (.if_icmp .ge 20, 3) := by decide +kernel
theorem dX3_turnDownTillBell_8 : decode cX3_turnDownTillBell 8 = .ok (.aload_n 0, 1) := by decide +kernel
theorem dX3_turnDownTillBell_9 : decode cX3_turnDownTillBell 9 = .ok (.iconst (-1), 1) := by decide +kernel
theorem dX3_turnDownTillBell_10 : decode cX3_turnDownTillBell 10 = .ok (.iconst 1, 1) := by decide +kernel
theorem dX3_turnDownTillBell_11 : decode cX3_turnDownTillBell 11 = .ok (.invokevirtual 81, 3) := by decide +kernel
theorem dX3_turnDownTillBell_14 : decode cX3_turnDownTillBell 14 = .ok (.ifCond .eq 5, 3) := by decide +kernel
theorem dX3_turnDownTillBell_17 : decode cX3_turnDownTillBell 17 = .ok (.iconst 1, 1) := by decide +kernel
theorem dX3_turnDownTillBell_18 : decode cX3_turnDownTillBell 18 = .ok (.ireturn, 1) := by decide +kernel
theorem dX3_turnDownTillBell_19 : decode cX3_turnDownTillBell 19 = .ok (.iinc 1 1, 3) := by decide +kernel
theorem dX3_turnDownTillBell_22 : decode cX3_turnDownTillBell 22 = .ok (.goto (-20), 3) := by decide +kernel
theorem dX3_turnDownTillBell_25 : decode cX3_turnDownTillBell 25 = .ok (.iconst 0, 1) := by decide +kernel
theorem dX3_turnDownTillBell_26 : decode cX3_turnDownTillBell 26 = .ok (.ireturn, 1) := by decide +kernel
theorem dX3_turnOnce_0 : decode cX3_turnOnce 0 = .ok (.aload_n 0, 1) := by decide +kernel
theorem dX3_turnOnce_1 : decode cX3_turnOnce 1 = .ok (.getfield 24, 3) := by decide +kernel
theorem dX3_turnOnce_4 : decode cX3_turnOnce 4 = .ok (.bipush 6, 2) := by decide +kernel
theorem dX3_turnOnce_6 : decode cX3_turnOnce 6 = .ok (.iadd, 1) := by decide +kernel
theorem dX3_turnOnce_7 : decode cX3_turnOnce 7 = .ok (.iconst 1, 1) := by decide +kernel
theorem dX3_turnOnce_8 : decode cX3_turnOnce 8 = .ok (.isub, 1) := by decide +kernel
theorem dX3_turnOnce_9 : decode cX3_turnOnce 9 = .ok (.aload_n 0, 1) := by decide +kernel
theorem dX3_turnOnce_10 : decode cX3_turnOnce 10 = .ok (.getfield 28, 3) := by decide +kernel
theorem dX3_turnOnce_13 : decode cX3_turnOnce 13 = .ok (.iadd, 1) := by decide +kernel
theorem dX3_turnOnce_14 : decode cX3_turnOnce 14 = .ok (.istore_n 3, 1) := by decide +kernel
theorem dX3_turnOnce_15 : decode cX3_turnOnce 15 = .ok (.iconst 0, 1) := by decide +kernel
theorem dX3_turnOnce_16 : decode cX3_turnOnce 16 = .ok (.istore 4, 2) := by decide +kernel
theorem dX3_turnOnce_18 : decode cX3_turnOnce 18 = .ok (.aload_n 0, 1) := by decide +kernel
theorem dX3_turnOnce_19 : decode cX3_turnOnce 19 = .ok (.getfield 24, 3) := by decide +kernel
theorem dX3_turnOnce_22 : decode cX3_turnOnce 22 = .ok (.istore 5, 2) := by decide +kernel
theorem dX3_turnOnce_24 : decode cX3_turnOnce 24 = .ok (.iload 5, 2) := by decide +kernel
theorem dX3_turnOnce_26 : decode cX3_turnOnce 26 = .ok (.bipush 12, 2) := by decide +kernel
theorem dX3_turnOnce_28 : decode cX3_turnOnce 28 = .ok (.if_icmp .ge 118, 3) := by decide +kernel
theorem dX3_turnOnce_31 : decode cX3_turnOnce 31 = .ok (.iload 5, 2) := by decide +kernel
theorem dX3_turnOnce_33 : decode cX3_turnOnce 33 = .ok (.aload_n 0, 1) := by decide +kernel
theorem dX3_turnOnce_34 : decode cX3_turnOnce 34 = .ok (.getfield 24, 3) := by decide +kernel
theorem dX3_turnOnce_37 : decode cX3_turnOnce 37 = .ok (.bipush 6, 2) := by decide +kernel
theorem dX3_turnOnce_39 : decode cX3_turnOnce 39 = .ok (.iadd, 1) := by decide +kernel
theorem dX3_turnOnce_40 : decode cX3_turnOnce 40 = .ok (.if_icmp .ge 7, 3) := by decide +kernel
theorem dX3_turnOnce_43 : decode cX3_turnOnce 43 = .ok (.iconst 1, 1) := by decide +kernel
theorem dX3_turnOnce_44 : decode cX3_turnOnce 44 = .ok (.goto 4, 3) := by decide +kernel
theorem dX3_turnOnce_47 : decode cX3_turnOnce 47 = .ok (.iconst 0, 1) := by decide +kernel
theorem dX3_turnOnce_48 : decode cX3_turnOnce 48 = .ok (.istore 6, 2) := by decide +kernel
theorem dX3_turnOnce_50 : decode cX3_turnOnce 50 = .ok (.iload 6, 2) := by decide +kernel
theorem dX3_turnOnce_52 : decode cX3_turnOnce 52 = .ok (.ifCond .ne 17, 3) := by decide +kernel
theorem dX3_turnOnce_55 : decode cX3_turnOnce 55 = .ok (.iload 4, 2) := by decide +kernel
theorem dX3_turnOnce_57 : decode cX3_turnOnce 57 = .ok (.ifCond .eq 89, 3) := by decide +kernel
theorem dX3_turnOnce_60 : decode cX3_turnOnce 60 = .ok (.iload 5, 2) := by decide +kernel
theorem dX3_turnOnce_62 : decode cX3_turnOnce 62 = .ok (.iload_n 3, 1) := by decide +kernel
theorem dX3_turnOnce_63 : decode cX3_turnOnce 63 = .ok (.if_icmp .le 6, 3) := by decide +kernel
theorem dX3_turnOnce_66 : decode cX3_turnOnce 66 = .ok (.goto 80, 3) := by decide +kernel
theorem dX3_turnOnce_69 : decode cX3_turnOnce 69 = .ok (.aload_n 0, 1) := by decide +kernel
theorem dX3_turnOnce_70 : decode cX3_turnOnce 70 = .ok (.getfield 18, 3) := by decide +kernel
theorem dX3_turnOnce_73 : decode cX3_turnOnce 73 = .ok (.iload 5, 2) := by decide +kernel
theorem dX3_turnOnce_75 : decode cX3_turnOnce 75 = .ok (.iaload, 1) := by decide +kernel
theorem dX3_turnOnce_76 : decode cX3_turnOnce 76 = .ok (.iload_n 1, 1) := by decide +kernel
theorem dX3_turnOnce_77 : decode cX3_turnOnce 77 = .ok (.iload 6, 2) := by decide +kernel
theorem dX3_turnOnce_79 : decode cX3_turnOnce 79 = .ok (.ifCond .eq 17, 3) := by decide +kernel
theorem dX3_turnOnce_82 : decode cX3_turnOnce 82 = .ok (.aload_n 0, 1) := by decide +kernel
theorem dX3_turnOnce_83 : decode cX3_turnOnce 83 = .ok (.iload 5, 2) := by decide +kernel
theorem dX3_turnOnce_85 : decode cX3_turnOnce 85 = .ok (.aload_n 0, 1) := by decide +kernel
theorem dX3_turnOnce_86 : decode cX3_turnOnce 86 = .ok (.getfield 24, 3) := by decide +kernel
theorem dX3_turnOnce_89 : decode cX3_turnOnce 89 = .ok (.isub, 1) := by decide +kernel
theorem dX3_turnOnce_90 : decode cX3_turnOnce 90 = .ok (.invokevirtual 114, 3) := by decide +kernel
theorem dX3_turnOnce_93 : decode cX3_turnOnce 93 = .ok (.goto 4, 3) := by decide +kernel
theorem dX3_turnOnce_96 : decode cX3_turnOnce 96 = .ok (.iconst 0, 1) := by decide +kernel
theorem dX3_turnOnce_97 : decode cX3_turnOnce 97 = .ok (.iload 4, 2) := by decide +kernel
theorem dX3_turnOnce_99 : decode cX3_turnOnce 99 = .ok (.iadd, 1) := by decide +kernel
theorem dX3_turnOnce_100 : decode cX3_turnOnce 100 = .ok (.imul, 1) := by decide +kernel
theorem dX3_turnOnce_101 : decode cX3_turnOnce 101 = .ok (.iadd, 1) := by decide +kernel
theorem dX3_turnOnce_102 : decode cX3_turnOnce 102 = .ok (.istore 7, 2) := by decide +kernel
theorem dX3_turnOnce_104 : decode cX3_turnOnce 104 = .ok (.iload 7, 2) := by decide +kernel
theorem dX3_turnOnce_106 : decode cX3_turnOnce 106 = .ok (.ifCond .lt 10, 3) := by decide +kernel
theorem dX3_turnOnce_109 : decode cX3_turnOnce 109 = .ok (.iload 7, 2) := by decide +kernel
theorem dX3_turnOnce_111 : decode cX3_turnOnce 111 = .ok (.bipush 9, 2) := by decide +kernel
theorem dX3_turnOnce_113 : decode cX3_turnOnce 113 = .ok (.if_icmp .le 7, 3) := by decide +kernel
theorem dX3_turnOnce_116 : decode cX3_turnOnce 116 = .ok (.iconst 1, 1) := by decide +kernel
theorem dX3_turnOnce_117 : decode cX3_turnOnce 117 = .ok (.goto 4, 3) := by decide +kernel
theorem dX3_turnOnce_120 : decode cX3_turnOnce 120 = .ok (.iconst 0, 1) := by decide +kernel
theorem dX3_turnOnce_121 : decode cX3_turnOnce 121 = .ok (.istore 4, 2) := by decide +kernel
theorem dX3_turnOnce_123 : decode cX3_turnOnce 123 = .ok (.aload_n 0, 1) := by decide +kernel
theorem dX3_turnOnce_124 : decode cX3_turnOnce 124 = .ok (.getfield 18, 3) := by decide +kernel
theorem dX3_turnOnce_127 : decode cX3_turnOnce 127 = .ok (.iload 5, 2) := by decide +kernel
theorem dX3_turnOnce_129 : decode cX3_turnOnce 129 = .ok (.iload 7, 2) := by decide +kernel
theorem dX3_turnOnce_131 : decode cX3_turnOnce 131 = .ok (.iload_n 1, 1) := by decide +kernel
theorem dX3_turnOnce_132 : decode cX3_turnOnce 132 = .ok (.bipush 10, 2) := by decide +kernel
theorem dX3_turnOnce_134 : decode cX3_turnOnce 134 = .ok (.imul, 1) := by decide +kernel
theorem dX3_turnOnce_135 : decode cX3_turnOnce 135 = .ok (.iload 4, 2) := by decide +kernel
theorem dX3_turnOnce_137 : decode cX3_turnOnce 137 = .ok (.imul, 1) := by decide +kernel
theorem dX3_turnOnce_138 : decode cX3_turnOnce 138 = .ok (.isub, 1) := by decide +kernel
theorem dX3_turnOnce_139 : decode cX3_turnOnce 139 = .ok (.iastore, 1) := by decide +kernel
theorem dX3_turnOnce_140 : decode cX3_turnOnce 140 = .ok (.iinc 5 1, 3) := by decide +kernel
theorem dX3_turnOnce_143 : decode cX3_turnOnce 143 = .ok (.goto (-119), 3) := by decide +kernel
theorem dX3_turnOnce_146 : decode cX3_turnOnce 146 = .ok (.aload_n 0, 1) := by decide +kernel
theorem dX3_turnOnce_147 : decode cX3_turnOnce 147 = .ok (.getfield 21, 3) := by decide +kernel
theorem dX3_turnOnce_150 : decode cX3_turnOnce 150 = .ok (.aload_n 0, 1) := by decide +kernel
theorem dX3_turnOnce_151 : decode cX3_turnOnce 151 = .ok (.getfield 24, 3) := by decide +kernel
theorem dX3_turnOnce_154 : decode cX3_turnOnce 154 = .ok (.aload_n 0, 1) := by decide +kernel
theorem dX3_turnOnce_155 : decode cX3_turnOnce 155 = .ok (.getfield 21, 3) := by decide +kernel
theorem dX3_turnOnce_158 : decode cX3_turnOnce 158 = .ok (.aload_n 0, 1) := by decide +kernel
theorem dX3_turnOnce_159 : decode cX3_turnOnce 159 = .ok (.getfield 24, 3) := by decide +kernel
theorem dX3_turnOnce_162 : decode cX3_turnOnce 162 = .ok (.iaload, 1) := by decide +kernel
theorem dX3_turnOnce_163 : decode cX3_turnOnce 163 = .ok (.iload_n 2, 1) := by decide +kernel
theorem dX3_turnOnce_164 : decode cX3_turnOnce 164 = .ok (.iadd, 1) := by decide +kernel
theorem dX3_turnOnce_165 : decode cX3_turnOnce 165 = .ok (.bipush 10, 2) := by decide +kernel
theorem dX3_turnOnce_167 : decode cX3_turnOnce 167 = .ok (.iadd, 1) := by decide +kernel
theorem dX3_turnOnce_168 : decode cX3_turnOnce 168 = .ok (.bipush 10, 2) := by decide +kernel
theorem dX3_turnOnce_170 : decode cX3_turnOnce 170 = .ok (.irem, 1) := by decide +kernel
theorem dX3_turnOnce_171 : decode cX3_turnOnce 171 = .ok (.iastore, 1) := by decide +kernel
theorem dX3_turnOnce_172 : decode cX3_turnOnce 172 = .ok (.aload_n 0, 1) := by decide +kernel
theorem dX3_turnOnce_173 : decode cX3_turnOnce 173 = .ok (.dup, 1) := by decide +kernel
theorem dX3_turnOnce_174 : decode cX3_turnOnce 174 = .ok (.getfield 34, 3) := by decide +kernel
theorem dX3_turnOnce_177 : decode cX3_turnOnce 177 = .ok (.iconst 1, 1) := by decide +kernel
theorem dX3_turnOnce_178 : decode cX3_turnOnce 178 = .ok (.iadd, 1) := by decide +kernel
theorem dX3_turnOnce_179 : decode cX3_turnOnce 179 = .ok (.putfield 34, 3) := by decide +kernel
theorem dX3_turnOnce_182 : decode cX3_turnOnce 182 = .ok (.iload 4, 2) := by decide +kernel
theorem dX3_turnOnce_184 : decode cX3_turnOnce 184 = .ok (.iconst 1, 1) := by decide +kernel
theorem dX3_turnOnce_185 : decode cX3_turnOnce 185 = .ok (.if_icmp .ne 13, 3) := by decide +kernel
theorem dX3_turnOnce_188 : decode cX3_turnOnce 188 = .ok (.bipush 12, 2) := by decide +kernel
theorem dX3_turnOnce_190 : decode cX3_turnOnce 190 = .ok (.iload_n 3, 1) := by decide +kernel
theorem dX3_turnOnce_191 : decode cX3_turnOnce 191 = .ok (.if_icmp .gt 7, 3) := by decide +kernel
theorem dX3_turnOnce_194 : decode cX3_turnOnce 194 = .ok (.iconst 1, 1) := by decide +kernel
theorem dX3_turnOnce_195 : decode cX3_turnOnce 195 = .ok (.goto 4, 3) := by decide +kernel
theorem dX3_turnOnce_198 : decode cX3_turnOnce 198 = .ok (.iconst 0, 1) := by decide +kernel
theorem dX3_turnOnce_199 : decode cX3_turnOnce 199 = .ok (.istore 5, 2) := by decide +kernel
theorem dX3_turnOnce_201 : decode cX3_turnOnce 201 = .ok (.iload 5, 2) := by decide +kernel
theorem dX3_turnOnce_203 : decode cX3_turnOnce 203 = .ok (.ifCond .eq 13, 3) := by decide +kernel
theorem dX3_turnOnce_206 : decode cX3_turnOnce 206 = .ok (.aload_n 0, 1) := by decide +kernel
theorem dX3_turnOnce_207 : decode cX3_turnOnce 207 = .ok (.dup, 1) := by decide +kernel
theorem dX3_turnOnce_208 : decode cX3_turnOnce 208 = .ok (.getfield 31, 3) := by decide +kernel
theorem dX3_turnOnce_211 : decode cX3_turnOnce 211 = .ok (.iconst 1, 1) := by decide +kernel
theorem dX3_turnOnce_212 : decode cX3_turnOnce 212 = .ok (.iadd, 1) := by decide +kernel
theorem dX3_turnOnce_213 : decode cX3_turnOnce 213 = .ok (.putfield 31, 3) := by decide +kernel
theorem dX3_turnOnce_216 : decode cX3_turnOnce 216 = .ok (.iload 5, 2) := by decide +kernel
theorem dX3_turnOnce_218 : decode cX3_turnOnce 218 = .ok (.ireturn, 1) := by decide +kernel
theorem dX3_given_0 : decode cX3_given 0 = .ok (.iconst 2, 1) := by decide +kernel
theorem dX3_given_1 : decode cX3_given 1 = .ok (.aload_n 0, 1) := by decide +kernel
theorem dX3_given_2 : decode cX3_given 2 = .ok (.getfield 9, 3) := by decide +kernel
theorem dX3_given_5 : decode cX3_given 5 = .ok (.iload_n 1, 1) := by decide +kernel
theorem dX3_given_6 : decode cX3_given 6 = .ok (.iaload, 1) := by decide +kernel
theorem dX3_given_7 : decode cX3_given 7 = .ok (.ishl, 1) := by decide +kernel
theorem dX3_given_8 : decode cX3_given 8 = .ok (.iconst 1, 1) := by decide +kernel
theorem dX3_given_9 : decode cX3_given 9 = .ok (.isub, 1) := by decide +kernel
theorem dX3_given_10 : decode cX3_given 10 = .ok (.istore_n 2, 1) := by decide +kernel
theorem dX3_given_11 : decode cX3_given 11 = .ok (.aload_n 0, 1) := by decide +kernel
theorem dX3_given_12 : decode cX3_given 12 = .ok (.getfield 9, 3) := by decide +kernel
theorem dX3_given_15 : decode cX3_given 15 = .ok (.iload_n 1, 1) := by decide +kernel
theorem dX3_given_16 : decode cX3_given 16 = .ok (.iaload, 1) := by decide +kernel
theorem dX3_given_17 : decode cX3_given 17 = .ok (.aload_n 0, 1) := by decide +kernel
theorem dX3_given_18 : decode cX3_given 18 = .ok (.getfield 15, 3) := by decide +kernel
theorem dX3_given_21 : decode cX3_given 21 = .ok (.iload_n 1, 1) := by decide +kernel
theorem dX3_given_22 : decode cX3_given 22 = .ok (.iaload, 1) := by decide +kernel
theorem dX3_given_23 : decode cX3_given 23 = .ok (.iload_n 2, 1) := by decide +kernel
theorem dX3_given_24 : decode cX3_given 24 = .ok (.iand, 1) := by decide +kernel
theorem dX3_given_25 : decode cX3_given 25 = .ok (.invokestatic 65, 3) := by decide +kernel
theorem dX3_given_28 : decode cX3_given 28 = .ok (.isub, 1) := by decide +kernel
theorem dX3_given_29 : decode cX3_given 29 = .ok (.ireturn, 1) := by decide +kernel
theorem dX3_numberGiven_0 : decode cX3_numberGiven 0 = .ok (.iconst 0, 1) := by decide +kernel
theorem dX3_numberGiven_1 : decode cX3_numberGiven 1 = .ok (.istore_n 1, 1) := by decide +kernel
theorem dX3_numberGiven_2 : decode cX3_numberGiven 2 = .ok (.iconst 5, 1) := by decide +kernel
theorem dX3_numberGiven_3 : decode cX3_numberGiven 3 = .ok (.istore_n 2, 1) := by decide +kernel
theorem dX3_numberGiven_4 : decode cX3_numberGiven 4 = .ok (.iload_n 2, 1) := by decide +kernel
theorem dX3_numberGiven_5 : decode cX3_numberGiven 5 = .ok (.ifCond .lt 20, 3) := by decide +kernel
theorem dX3_numberGiven_8 : decode cX3_numberGiven 8 = .ok (.iload_n 1, 1) := by decide +kernel
theorem dX3_numberGiven_9 : decode cX3_numberGiven 9 = .ok (.bipush 10, 2) := by decide +kernel
theorem dX3_numberGiven_11 : decode cX3_numberGiven 11 = .ok (.imul, 1) := by decide +kernel
theorem dX3_numberGiven_12 : decode cX3_numberGiven 12 = .ok (.aload_n 0, 1) := by decide +kernel
theorem dX3_numberGiven_13 : decode cX3_numberGiven 13 = .ok (.iload_n 2, 1) := by decide +kernel
theorem dX3_numberGiven_14 : decode cX3_numberGiven 14 = .ok (.invokevirtual 114, 3) := by decide +kernel
theorem dX3_numberGiven_17 : decode cX3_numberGiven 17 = .ok (.iadd, 1) := by decide +kernel
theorem dX3_numberGiven_18 : decode cX3_numberGiven 18 = .ok (.istore_n 1, 1) := by decide +kernel
theorem dX3_numberGiven_19 : decode cX3_numberGiven 19 = .ok (.iinc 2 (-1), 3) := by decide +kernel
theorem dX3_numberGiven_22 : decode cX3_numberGiven 22 = .ok (.goto (-18), 3) := by decide +kernel
theorem dX3_numberGiven_25 : decode cX3_numberGiven 25 = .ok (.iload_n 1, 1) := by decide +kernel
theorem dX3_numberGiven_26 : decode cX3_numberGiven 26 = .ok (.ireturn, 1) := by decide +kernel
theorem dX3_tellDrum_0 : decode cX3_tellDrum 0 = .ok (.iload_n 1, 1) := by decide +kernel
theorem dX3_tellDrum_1 : decode cX3_tellDrum 1 = .ok (.i2l, 1) := by decide +kernel
theorem dX3_tellDrum_2 : decode cX3_tellDrum 2 = .ok (.lconst 0, 1) := by decide +kernel
theorem dX3_tellDrum_3 : decode cX3_tellDrum 3 = .ok (.ldc2_w 43, 3) := by decide +kernel
theorem dX3_tellDrum_6 : decode cX3_tellDrum 6 = .ok (.invokestatic 45, 3) := by decide +kernel
theorem dX3_tellDrum_9 : decode cX3_tellDrum 9 = .ok (.ifCond .ne 6, 3) := by decide +kernel
theorem dX3_tellDrum_12 : decode cX3_tellDrum 12 = .ok (.bipush (-2), 2) := by decide +kernel
theorem dX3_tellDrum_14 : decode cX3_tellDrum 14 = .ok (.ireturn, 1) := by decide +kernel
theorem dX3_tellDrum_15 : decode cX3_tellDrum 15 = .ok (.iload_n 2, 1) := by decide +kernel
theorem dX3_tellDrum_16 : decode cX3_tellDrum 16 = .ok (.tableswitch 48 0 2 #[28, 35, 41], 28) := by decide +kernel
theorem dX3_tellDrum_44 : decode cX3_tellDrum 44 = .ok (.aload_n 0, 1) := by decide +kernel
theorem dX3_tellDrum_45 : decode cX3_tellDrum 45 = .ok (.getfield 9, 3) := by decide +kernel
theorem dX3_tellDrum_48 : decode cX3_tellDrum 48 = .ok (.iload_n 1, 1) := by decide +kernel
theorem dX3_tellDrum_49 : decode cX3_tellDrum 49 = .ok (.iaload, 1) := by decide +kernel
theorem dX3_tellDrum_50 : decode cX3_tellDrum 50 = .ok (.ireturn, 1) := by decide +kernel
theorem dX3_tellDrum_51 : decode cX3_tellDrum 51 = .ok (.aload_n 0, 1) := by decide +kernel
theorem dX3_tellDrum_52 : decode cX3_tellDrum 52 = .ok (.iload_n 1, 1) := by decide +kernel
theorem dX3_tellDrum_53 : decode cX3_tellDrum 53 = .ok (.invokevirtual 114, 3) := by decide +kernel
theorem dX3_tellDrum_56 : decode cX3_tellDrum 56 = .ok (.ireturn, 1) := by decide +kernel
theorem dX3_tellDrum_57 : decode cX3_tellDrum 57 = .ok (.aload_n 0, 1) := by decide +kernel
theorem dX3_tellDrum_58 : decode cX3_tellDrum 58 = .ok (.getfield 15, 3) := by decide +kernel
theorem dX3_tellDrum_61 : decode cX3_tellDrum 61 = .ok (.iload_n 1, 1) := by decide +kernel
theorem dX3_tellDrum_62 : decode cX3_tellDrum 62 = .ok (.iaload, 1) := by decide +kernel
theorem dX3_tellDrum_63 : decode cX3_tellDrum 63 = .ok (.ireturn, 1) := by decide +kernel
theorem dX3_tellDrum_64 : decode cX3_tellDrum 64 = .ok (.bipush (-2), 2) := by decide +kernel
theorem dX3_tellDrum_66 : decode cX3_tellDrum 66 = .ok (.ireturn, 1) := by decide +kernel
theorem dX3_tellCount_0 : decode cX3_tellCount 0 = .ok (.iload_n 1, 1) := by decide +kernel
theorem dX3_tellCount_1 : decode cX3_tellCount 1 = .ok (.tableswitch 95 0 7 #[47, 56, 61, 70, 75, 80, 85, 90], 47) := by decide +kernel
theorem dX3_tellCount_48 : decode cX3_tellCount 48 = .ok (.aload_n 0, 1) := by decide +kernel
theorem dX3_tellCount_49 : decode cX3_tellCount 49 = .ok (.getfield 9, 3) := by decide +kernel
theorem dX3_tellCount_52 : decode cX3_tellCount 52 = .ok (.invokestatic 53, 3) := by decide +kernel
theorem dX3_tellCount_55 : decode cX3_tellCount 55 = .ok (.l2i, 1) := by decide +kernel
theorem dX3_tellCount_56 : decode cX3_tellCount 56 = .ok (.ireturn, 1) := by decide +kernel
theorem dX3_tellCount_57 : decode cX3_tellCount 57 = .ok (.aload_n 0, 1) := by decide +kernel
theorem dX3_tellCount_58 : decode cX3_tellCount 58 = .ok (.invokevirtual 107, 3) := by decide +kernel
theorem dX3_tellCount_61 : decode cX3_tellCount 61 = .ok (.ireturn, 1) := by decide +kernel
theorem dX3_tellCount_62 : decode cX3_tellCount 62 = .ok (.aload_n 0, 1) := by decide +kernel
theorem dX3_tellCount_63 : decode cX3_tellCount 63 = .ok (.getfield 21, 3) := by decide +kernel
theorem dX3_tellCount_66 : decode cX3_tellCount 66 = .ok (.invokestatic 53, 3) := by decide +kernel
theorem dX3_tellCount_69 : decode cX3_tellCount 69 = .ok (.l2i, 1) := by decide +kernel
theorem dX3_tellCount_70 : decode cX3_tellCount 70 = .ok (.ireturn, 1) := by decide +kernel
theorem dX3_tellCount_71 : decode cX3_tellCount 71 = .ok (.aload_n 0, 1) := by decide +kernel
theorem dX3_tellCount_72 : decode cX3_tellCount 72 = .ok (.getfield 24, 3) := by decide +kernel
theorem dX3_tellCount_75 : decode cX3_tellCount 75 = .ok (.ireturn, 1) := by decide +kernel
theorem dX3_tellCount_76 : decode cX3_tellCount 76 = .ok (.aload_n 0, 1) := by decide +kernel
theorem dX3_tellCount_77 : decode cX3_tellCount 77 = .ok (.getfield 28, 3) := by decide +kernel
theorem dX3_tellCount_80 : decode cX3_tellCount 80 = .ok (.ireturn, 1) := by decide +kernel
theorem dX3_tellCount_81 : decode cX3_tellCount 81 = .ok (.aload_n 0, 1) := by decide +kernel
theorem dX3_tellCount_82 : decode cX3_tellCount 82 = .ok (.getfield 31, 3) := by decide +kernel
theorem dX3_tellCount_85 : decode cX3_tellCount 85 = .ok (.ireturn, 1) := by decide +kernel
theorem dX3_tellCount_86 : decode cX3_tellCount 86 = .ok (.aload_n 0, 1) := by decide +kernel
theorem dX3_tellCount_87 : decode cX3_tellCount 87 = .ok (.getfield 34, 3) := by decide +kernel
theorem dX3_tellCount_90 : decode cX3_tellCount 90 = .ok (.ireturn, 1) := by decide +kernel
theorem dX3_tellCount_91 : decode cX3_tellCount 91 = .ok (.aload_n 0, 1) := by decide +kernel
theorem dX3_tellCount_92 : decode cX3_tellCount 92 = .ok (.invokevirtual 117, 3) := by decide +kernel
theorem dX3_tellCount_95 : decode cX3_tellCount 95 = .ok (.ireturn, 1) := by decide +kernel
theorem dX3_tellCount_96 : decode cX3_tellCount 96 = .ok (.bipush (-2), 2) := by decide +kernel
theorem dX3_tellCount_98 : decode cX3_tellCount 98 = .ok (.ireturn, 1) := by decide +kernel
theorem dX3_wornTeeth_0 : decode cX3_wornTeeth 0 = .ok (.iconst 0, 1) := by decide +kernel
theorem dX3_wornTeeth_1 : decode cX3_wornTeeth 1 = .ok (.istore_n 1, 1) := by decide +kernel
theorem dX3_wornTeeth_2 : decode cX3_wornTeeth 2 = .ok (.iconst 0, 1) := by decide +kernel
theorem dX3_wornTeeth_3 : decode cX3_wornTeeth 3 = .ok (.istore_n 2, 1) := by decide +kernel
theorem dX3_wornTeeth_4 : decode cX3_wornTeeth 4 = .ok (.iload_n 2, 1) := by decide +kernel
theorem dX3_wornTeeth_5 : decode cX3_wornTeeth 5 = .ok (.bipush 6, 2) := by decide +kernel
theorem dX3_wornTeeth_7 : decode cX3_wornTeeth 7 = .ok (.if_icmp .ge 21, 3) := by decide +kernel
theorem dX3_wornTeeth_10 : decode cX3_wornTeeth 10 = .ok (.iload_n 1, 1) := by decide +kernel
theorem dX3_wornTeeth_11 : decode cX3_wornTeeth 11 = .ok (.aload_n 0, 1) := by decide +kernel
theorem dX3_wornTeeth_12 : decode cX3_wornTeeth 12 = .ok (.getfield 15, 3) := by decide +kernel
theorem dX3_wornTeeth_15 : decode cX3_wornTeeth 15 = .ok (.iload_n 2, 1) := by decide +kernel
theorem dX3_wornTeeth_16 : decode cX3_wornTeeth 16 = .ok (.iaload, 1) := by decide +kernel
theorem dX3_wornTeeth_17 : decode cX3_wornTeeth 17 = .ok (.invokestatic 65, 3) := by decide +kernel
theorem dX3_wornTeeth_20 : decode cX3_wornTeeth 20 = .ok (.iadd, 1) := by decide +kernel
theorem dX3_wornTeeth_21 : decode cX3_wornTeeth 21 = .ok (.istore_n 1, 1) := by decide +kernel
theorem dX3_wornTeeth_22 : decode cX3_wornTeeth 22 = .ok (.iinc 2 1, 3) := by decide +kernel
theorem dX3_wornTeeth_25 : decode cX3_wornTeeth 25 = .ok (.goto (-21), 3) := by decide +kernel
theorem dX3_wornTeeth_28 : decode cX3_wornTeeth 28 = .ok (.iload_n 1, 1) := by decide +kernel
theorem dX3_wornTeeth_29 : decode cX3_wornTeeth 29 = .ok (.ireturn, 1) := by decide +kernel
theorem dX3_tried_0 : decode cX3_tried 0 = .ok (.iload_n 1, 1) := by decide +kernel
theorem dX3_tried_1 : decode cX3_tried 1 = .ok (.i2l, 1) := by decide +kernel
theorem dX3_tried_2 : decode cX3_tried 2 = .ok (.iload_n 2, 1) := by decide +kernel
theorem dX3_tried_3 : decode cX3_tried 3 = .ok (.i2l, 1) := by decide +kernel
theorem dX3_tried_4 : decode cX3_tried 4 = .ok (.lmul, 1) := by decide +kernel
theorem dX3_tried_5 : decode cX3_tried 5 = .ok (.lstore_n 3, 1) := by decide +kernel
theorem dX3_tried_6 : decode cX3_tried 6 = .ok (.aload_n 0, 1) := by decide +kernel
theorem dX3_tried_7 : decode cX3_tried 7 = .ok (.getfield 28, 3) := by decide +kernel
theorem dX3_tried_10 : decode cX3_tried 10 = .ok (.ifCond .ne 9, 3) := by decide +kernel
theorem dX3_tried_13 : decode cX3_tried 13 = .ok (.lload_n 3, 1) := by decide +kernel
theorem dX3_tried_14 : decode cX3_tried 14 = .ok (.ldc2_w 120, 3) := by decide +kernel
theorem dX3_tried_17 : decode cX3_tried 17 = .ok (.lrem, 1) := by decide +kernel
theorem dX3_tried_18 : decode cX3_tried 18 = .ok (.lreturn, 1) := by decide +kernel
theorem dX3_tried_19 : decode cX3_tried 19 = .ok (.aload_n 0, 1) := by decide +kernel
theorem dX3_tried_20 : decode cX3_tried 20 = .ok (.getfield 28, 3) := by decide +kernel
theorem dX3_tried_23 : decode cX3_tried 23 = .ok (.iconst 1, 1) := by decide +kernel
theorem dX3_tried_24 : decode cX3_tried 24 = .ok (.if_icmp .ne 11, 3) := by decide +kernel
theorem dX3_tried_27 : decode cX3_tried 27 = .ok (.lload_n 3, 1) := by decide +kernel
theorem dX3_tried_28 : decode cX3_tried 28 = .ok (.ldc2_w 122, 3) := by decide +kernel
theorem dX3_tried_31 : decode cX3_tried 31 = .ok (.lrem, 1) := by decide +kernel
theorem dX3_tried_32 : decode cX3_tried 32 = .ok (.goto 4, 3) := by decide +kernel
theorem dX3_tried_35 : decode cX3_tried 35 = .ok (.lload_n 3, 1) := by decide +kernel
theorem dX3_tried_36 : decode cX3_tried 36 = .ok (.lreturn, 1) := by decide +kernel
theorem dX3_explain_0 : decode cX3_explain 0 = .ok (.aload_n 0, 1) := by decide +kernel
theorem dX3_explain_1 : decode cX3_explain 1 = .ok (.getfield 9, 3) := by decide +kernel
theorem dX3_explain_4 : decode cX3_explain 4 = .ok (.invokestatic 53, 3) := by decide +kernel
theorem dX3_explain_7 : decode cX3_explain 7 = .ok (.l2i, 1) := by decide +kernel
theorem dX3_explain_8 : decode cX3_explain 8 = .ok (.istore 5, 2) := by decide +kernel
theorem dX3_explain_10 : decode cX3_explain 10 = .ok (.iconst 0, 1) := by decide +kernel
theorem dX3_explain_11 : decode cX3_explain 11 = .ok (.istore 6, 2) := by decide +kernel
theorem dX3_explain_13 : decode cX3_explain 13 = .ok (.iconst (-1), 1) := by decide +kernel
theorem dX3_explain_14 : decode cX3_explain 14 = .ok (.istore 7, 2) := by decide +kernel
theorem dX3_explain_16 : decode cX3_explain 16 = .ok (.iconst (-1), 1) := by decide +kernel
theorem dX3_explain_17 : decode cX3_explain 17 = .ok (.istore 8, 2) := by decide +kernel
theorem dX3_explain_19 : decode cX3_explain 19 = .ok (.iconst 1, 1) := by decide +kernel
theorem dX3_explain_20 : decode cX3_explain 20 = .ok (.istore 9, 2) := by decide +kernel
theorem dX3_explain_22 : decode cX3_explain 22 = .ok (.iconst 0, 1) := by decide +kernel
theorem dX3_explain_23 : decode cX3_explain 23 = .ok (.istore 10, 2) := by decide +kernel
theorem dX3_explain_25 : decode cX3_explain 25 = .ok (.iload 10, 2) := by decide +kernel
theorem dX3_explain_27 : decode cX3_explain 27 = .ok (.bipush 6, 2) := by decide +kernel
theorem dX3_explain_29 : decode cX3_explain 29 = .ok (.if_icmp .ge 96, 3) := by decide +kernel
theorem dX3_explain_32 : decode cX3_explain 32 = .ok (.iconst 1, 1) := by decide +kernel
theorem dX3_explain_33 : decode cX3_explain 33 = .ok (.istore 11, 2) := by decide +kernel
theorem dX3_explain_35 : decode cX3_explain 35 = .ok (.iload 11, 2) := by decide +kernel
theorem dX3_explain_37 : decode cX3_explain 37 = .ok (.bipush 9, 2) := by decide +kernel
theorem dX3_explain_39 : decode cX3_explain 39 = .ok (.if_icmp .gt 73, 3) := by decide +kernel
theorem dX3_explain_42 : decode cX3_explain 42 = .ok (.iload 11, 2) := by decide +kernel
theorem dX3_explain_44 : decode cX3_explain 44 = .ok (.aload_n 0, 1) := by decide +kernel
theorem dX3_explain_45 : decode cX3_explain 45 = .ok (.getfield 9, 3) := by decide +kernel
theorem dX3_explain_48 : decode cX3_explain 48 = .ok (.iload 10, 2) := by decide +kernel
theorem dX3_explain_50 : decode cX3_explain 50 = .ok (.iaload, 1) := by decide +kernel
theorem dX3_explain_51 : decode cX3_explain 51 = .ok (.if_icmp .gt 11, 3) := by decide +kernel
theorem dX3_explain_54 : decode cX3_explain 54 = .ok (.iload 5, 2) := by decide +kernel
theorem dX3_explain_56 : decode cX3_explain 56 = .ok (.iload 9, 2) := by decide +kernel
theorem dX3_explain_58 : decode cX3_explain 58 = .ok (.isub, 1) := by decide +kernel
theorem dX3_explain_59 : decode cX3_explain 59 = .ok (.goto 5, 3) := by decide +kernel
theorem dX3_explain_62 : decode cX3_explain 62 = .ok (.iload 5, 2) := by decide +kernel
theorem dX3_explain_64 : decode cX3_explain 64 = .ok (.istore 12, 2) := by decide +kernel
theorem dX3_explain_66 : decode cX3_explain 66 = .ok (.aload_n 0, 1) := by decide +kernel
theorem dX3_explain_67 : decode cX3_explain 67 = .ok (.iload 12, 2) := by decide +kernel
theorem dX3_explain_69 : decode cX3_explain 69 = .ok (.iload_n 3, 1) := by decide +kernel
theorem dX3_explain_70 : decode cX3_explain 70 = .ok (.invokevirtual 124, 3) := by decide +kernel
theorem dX3_explain_73 : decode cX3_explain 73 = .ok (.lload_n 1, 1) := by decide +kernel
theorem dX3_explain_74 : decode cX3_explain 74 = .ok (.lcmp, 1) := by decide +kernel
theorem dX3_explain_75 : decode cX3_explain 75 = .ok (.ifCond .ne 31, 3) := by decide +kernel
theorem dX3_explain_78 : decode cX3_explain 78 = .ok (.iinc 6 1, 3) := by decide +kernel
theorem dX3_explain_81 : decode cX3_explain 81 = .ok (.bipush 10, 2) := by decide +kernel
theorem dX3_explain_83 : decode cX3_explain 83 = .ok (.iload 10, 2) := by decide +kernel
theorem dX3_explain_85 : decode cX3_explain 85 = .ok (.imul, 1) := by decide +kernel
theorem dX3_explain_86 : decode cX3_explain 86 = .ok (.iload 11, 2) := by decide +kernel
theorem dX3_explain_88 : decode cX3_explain 88 = .ok (.iadd, 1) := by decide +kernel
theorem dX3_explain_89 : decode cX3_explain 89 = .ok (.istore 8, 2) := by decide +kernel
theorem dX3_explain_91 : decode cX3_explain 91 = .ok (.iload 7, 2) := by decide +kernel
theorem dX3_explain_93 : decode cX3_explain 93 = .ok (.iconst (-1), 1) := by decide +kernel
theorem dX3_explain_94 : decode cX3_explain 94 = .ok (.if_icmp .ne 8, 3) := by decide +kernel
theorem dX3_explain_97 : decode cX3_explain 97 = .ok (.iload 8, 2) := by decide +kernel
theorem dX3_explain_99 : decode cX3_explain 99 = .ok (.goto 5, 3) := by decide +kernel
theorem dX3_explain_102 : decode cX3_explain 102 = .ok (.iload 7, 2) := by decide +kernel
theorem dX3_explain_104 : decode cX3_explain 104 = .ok (.istore 7, 2) := by decide +kernel
theorem dX3_explain_106 : decode cX3_explain 106 = .ok (.iinc 11 1, 3) := by decide +kernel
theorem dX3_explain_109 : decode cX3_explain 109 = .ok (.goto (-74), 3) := by decide +kernel
theorem dX3_explain_112 : decode cX3_explain 112 = .ok (.iload 9, 2) := by decide +kernel
theorem dX3_explain_114 : decode cX3_explain 114 = .ok (.bipush 10, 2) := by decide +kernel
theorem dX3_explain_116 : decode cX3_explain 116 = .ok (.imul, 1) := by decide +kernel
theorem dX3_explain_117 : decode cX3_explain 117 = .ok (.istore 9, 2) := by decide +kernel
theorem dX3_explain_119 : decode cX3_explain 119 = .ok (.iinc 10 1, 3) := by decide +kernel
theorem dX3_explain_122 : decode cX3_explain 122 = .ok (.goto (-97), 3) := by decide +kernel
theorem dX3_explain_125 : decode cX3_explain 125 = .ok (.iload 4, 2) := by decide +kernel
theorem dX3_explain_127 : decode cX3_explain 127 = .ok (.ifCond .ne 6, 3) := by decide +kernel
theorem dX3_explain_130 : decode cX3_explain 130 = .ok (.iload 6, 2) := by decide +kernel
theorem dX3_explain_132 : decode cX3_explain 132 = .ok (.ireturn, 1) := by decide +kernel
theorem dX3_explain_133 : decode cX3_explain 133 = .ok (.iload 4, 2) := by decide +kernel
theorem dX3_explain_135 : decode cX3_explain 135 = .ok (.iconst 1, 1) := by decide +kernel
theorem dX3_explain_136 : decode cX3_explain 136 = .ok (.if_icmp .ne 8, 3) := by decide +kernel
theorem dX3_explain_139 : decode cX3_explain 139 = .ok (.iload 7, 2) := by decide +kernel
theorem dX3_explain_141 : decode cX3_explain 141 = .ok (.goto 5, 3) := by decide +kernel
theorem dX3_explain_144 : decode cX3_explain 144 = .ok (.iload 8, 2) := by decide +kernel
theorem dX3_explain_146 : decode cX3_explain 146 = .ok (.ireturn, 1) := by decide +kernel
theorem dX4_init_0 : decode cX4_init 0 = .ok (.aload_n 0, 1) := by decide +kernel
theorem dX4_init_1 : decode cX4_init 1 = .ok (.invokespecial 1, 3) := by decide +kernel
theorem dX4_init_4 : decode cX4_init 4 = .ok (.aload_n 0, 1) := by decide +kernel
theorem dX4_init_5 : decode cX4_init 5 = .ok (.new 7, 3) := by decide +kernel
theorem dX4_init_8 : decode cX4_init 8 = .ok (.dup, 1) := by decide +kernel
theorem dX4_init_9 : decode cX4_init 9 = .ok (.invokespecial 9, 3) := by decide +kernel
theorem dX4_init_12 : decode cX4_init 12 = .ok (.putfield 10, 3) := by decide +kernel
theorem dX4_init_15 : decode cX4_init 15 = .ok (.aload_n 0, 1) := by decide +kernel
theorem dX4_init_16 : decode cX4_init 16 = .ok (.new 7, 3) := by decide +kernel
theorem dX4_init_19 : decode cX4_init 19 = .ok (.dup, 1) := by decide +kernel
theorem dX4_init_20 : decode cX4_init 20 = .ok (.invokespecial 9, 3) := by decide +kernel
theorem dX4_init_23 : decode cX4_init 23 = .ok (.putfield 16, 3) := by decide +kernel
theorem dX4_init_26 : decode cX4_init 26 = .ok (.aload_n 0, 1) := by decide +kernel
theorem dX4_init_27 : decode cX4_init 27 = .ok (.new 19, 3) := by decide +kernel
theorem dX4_init_30 : decode cX4_init 30 = .ok (.dup, 1) := by decide +kernel
theorem dX4_init_31 : decode cX4_init 31 = .ok (.invokespecial 21, 3) := by decide +kernel
theorem dX4_init_34 : decode cX4_init 34 = .ok (.putfield 22, 3) := by decide +kernel
theorem dX4_init_37 : decode cX4_init 37 = .ok (.aload_n 0, 1) := by decide +kernel
theorem dX4_init_38 : decode cX4_init 38 = .ok (.new 26, 3) := by decide +kernel
theorem dX4_init_41 : decode cX4_init 41 = .ok (.dup, 1) := by decide +kernel
theorem dX4_init_42 : decode cX4_init 42 = .ok (.invokespecial 28, 3) := by decide +kernel
theorem dX4_init_45 : decode cX4_init 45 = .ok (.putfield 29, 3) := by decide +kernel
theorem dX4_init_48 : decode cX4_init 48 = .ok (.aload_n 0, 1) := by decide +kernel
theorem dX4_init_49 : decode cX4_init 49 = .ok (.new 33, 3) := by decide +kernel
theorem dX4_init_52 : decode cX4_init 52 = .ok (.dup, 1) := by decide +kernel
theorem dX4_init_53 : decode cX4_init 53 = .ok (.invokespecial 35, 3) := by decide +kernel
theorem dX4_init_56 : decode cX4_init 56 = .ok (.putfield 36, 3) := by decide +kernel
theorem dX4_init_59 : decode cX4_init 59 = .ok (.return_, 1) := by decide +kernel
theorem dX4_sets_0 : decode cX4_sets 0 = .ok (.aload_n 0, 1) := by decide +kernel
theorem dX4_sets_1 : decode cX4_sets 1 = .ok (.invokevirtual 40, 3) := by decide +kernel
theorem dX4_sets_4 : decode cX4_sets 4 = .ok (.aload_n 0, 1) := by decide +kernel
theorem dX4_sets_5 : decode cX4_sets 5 = .ok (.aload_n 0, 1) := by decide +kernel
theorem dX4_sets_6 : decode cX4_sets 6 = .ok (.getfield 10, 3) := by decide +kernel
theorem dX4_sets_9 : decode cX4_sets 9 = .ok (.iload_n 1, 1) := by decide +kernel
theorem dX4_sets_10 : decode cX4_sets 10 = .ok (.iload_n 2, 1) := by decide +kernel
theorem dX4_sets_11 : decode cX4_sets 11 = .ok (.invokevirtual 43, 3) := by decide +kernel
theorem dX4_sets_14 : decode cX4_sets 14 = .ok (.invokevirtual 47, 3) := by decide +kernel
theorem dX4_sets_17 : decode cX4_sets 17 = .ok (.ireturn, 1) := by decide +kernel
theorem dX4_input_0 : decode cX4_input 0 = .ok (.aload_n 0, 1) := by decide +kernel
theorem dX4_input_1 : decode cX4_input 1 = .ok (.invokevirtual 40, 3) := by decide +kernel
theorem dX4_input_4 : decode cX4_input 4 = .ok (.aload_n 0, 1) := by decide +kernel
theorem dX4_input_5 : decode cX4_input 5 = .ok (.aload_n 0, 1) := by decide +kernel
theorem dX4_input_6 : decode cX4_input 6 = .ok (.getfield 10, 3) := by decide +kernel
theorem dX4_input_9 : decode cX4_input 9 = .ok (.iload_n 1, 1) := by decide +kernel
theorem dX4_input_10 : decode cX4_input 10 = .ok (.invokevirtual 51, 3) := by decide +kernel
theorem dX4_input_13 : decode cX4_input 13 = .ok (.invokevirtual 47, 3) := by decide +kernel
theorem dX4_input_16 : decode cX4_input 16 = .ok (.ireturn, 1) := by decide +kernel
theorem dX4_shifts_0 : decode cX4_shifts 0 = .ok (.aload_n 0, 1) := by decide +kernel
theorem dX4_shifts_1 : decode cX4_shifts 1 = .ok (.invokevirtual 40, 3) := by decide +kernel
theorem dX4_shifts_4 : decode cX4_shifts 4 = .ok (.aload_n 0, 1) := by decide +kernel
theorem dX4_shifts_5 : decode cX4_shifts 5 = .ok (.aload_n 0, 1) := by decide +kernel
theorem dX4_shifts_6 : decode cX4_shifts 6 = .ok (.getfield 10, 3) := by decide +kernel
theorem dX4_shifts_9 : decode cX4_shifts 9 = .ok (.iload_n 1, 1) := by decide +kernel
theorem dX4_shifts_10 : decode cX4_shifts 10 = .ok (.invokevirtual 54, 3) := by decide +kernel
theorem dX4_shifts_13 : decode cX4_shifts 13 = .ok (.invokevirtual 47, 3) := by decide +kernel
theorem dX4_shifts_16 : decode cX4_shifts 16 = .ok (.ireturn, 1) := by decide +kernel
theorem dX4_reaches_0 : decode cX4_reaches 0 = .ok (.aload_n 0, 1) := by decide +kernel
theorem dX4_reaches_1 : decode cX4_reaches 1 = .ok (.invokevirtual 40, 3) := by decide +kernel
theorem dX4_reaches_4 : decode cX4_reaches 4 = .ok (.aload_n 0, 1) := by decide +kernel
theorem dX4_reaches_5 : decode cX4_reaches 5 = .ok (.aload_n 0, 1) := by decide +kernel
theorem dX4_reaches_6 : decode cX4_reaches 6 = .ok (.getfield 10, 3) := by decide +kernel
theorem dX4_reaches_9 : decode cX4_reaches 9 = .ok (.iload_n 1, 1) := by decide +kernel
theorem dX4_reaches_10 : decode cX4_reaches 10 = .ok (.invokevirtual 57, 3) := by decide +kernel
theorem dX4_reaches_13 : decode cX4_reaches 13 = .ok (.invokevirtual 47, 3) := by decide +kernel
theorem dX4_reaches_16 : decode cX4_reaches 16 = .ok (.ireturn, 1) := by decide +kernel
theorem dX4_wears_0 : decode cX4_wears 0 = .ok (.aload_n 0, 1) := by decide +kernel
theorem dX4_wears_1 : decode cX4_wears 1 = .ok (.invokevirtual 40, 3) := by decide +kernel
theorem dX4_wears_4 : decode cX4_wears 4 = .ok (.aload_n 0, 1) := by decide +kernel
theorem dX4_wears_5 : decode cX4_wears 5 = .ok (.aload_n 0, 1) := by decide +kernel
theorem dX4_wears_6 : decode cX4_wears 6 = .ok (.getfield 10, 3) := by decide +kernel
theorem dX4_wears_9 : decode cX4_wears 9 = .ok (.iload_n 1, 1) := by decide +kernel
theorem dX4_wears_10 : decode cX4_wears 10 = .ok (.iload_n 2, 1) := by decide +kernel
theorem dX4_wears_11 : decode cX4_wears 11 = .ok (.invokevirtual 60, 3) := by decide +kernel
theorem dX4_wears_14 : decode cX4_wears 14 = .ok (.invokevirtual 47, 3) := by decide +kernel
theorem dX4_wears_17 : decode cX4_wears 17 = .ok (.ireturn, 1) := by decide +kernel
theorem dX4_clears_0 : decode cX4_clears 0 = .ok (.aload_n 0, 1) := by decide +kernel
theorem dX4_clears_1 : decode cX4_clears 1 = .ok (.invokevirtual 40, 3) := by decide +kernel
theorem dX4_clears_4 : decode cX4_clears 4 = .ok (.aload_n 0, 1) := by decide +kernel
theorem dX4_clears_5 : decode cX4_clears 5 = .ok (.aload_n 0, 1) := by decide +kernel
theorem dX4_clears_6 : decode cX4_clears 6 = .ok (.getfield 10, 3) := by decide +kernel
theorem dX4_clears_9 : decode cX4_clears 9 = .ok (.invokevirtual 63, 3) := by decide +kernel
theorem dX4_clears_12 : decode cX4_clears 12 = .ok (.invokevirtual 47, 3) := by decide +kernel
theorem dX4_clears_15 : decode cX4_clears 15 = .ok (.ireturn, 1) := by decide +kernel
theorem dX4_lays_0 : decode cX4_lays 0 = .ok (.aload_n 0, 1) := by decide +kernel
theorem dX4_lays_1 : decode cX4_lays 1 = .ok (.invokevirtual 40, 3) := by decide +kernel
theorem dX4_lays_4 : decode cX4_lays 4 = .ok (.aload_n 0, 1) := by decide +kernel
theorem dX4_lays_5 : decode cX4_lays 5 = .ok (.aload_n 0, 1) := by decide +kernel
theorem dX4_lays_6 : decode cX4_lays 6 = .ok (.getfield 10, 3) := by decide +kernel
theorem dX4_lays_9 : decode cX4_lays 9 = .ok (.lload_n 1, 1) := by decide +kernel
theorem dX4_lays_10 : decode cX4_lays 10 = .ok (.invokevirtual 67, 3) := by decide +kernel
theorem dX4_lays_13 : decode cX4_lays 13 = .ok (.invokevirtual 47, 3) := by decide +kernel
theorem dX4_lays_16 : decode cX4_lays 16 = .ok (.ireturn, 1) := by decide +kernel
theorem dX4_ups_0 : decode cX4_ups 0 = .ok (.aload_n 0, 1) := by decide +kernel
theorem dX4_ups_1 : decode cX4_ups 1 = .ok (.invokevirtual 40, 3) := by decide +kernel
theorem dX4_ups_4 : decode cX4_ups 4 = .ok (.aload_n 0, 1) := by decide +kernel
theorem dX4_ups_5 : decode cX4_ups 5 = .ok (.aload_n 0, 1) := by decide +kernel
theorem dX4_ups_6 : decode cX4_ups 6 = .ok (.getfield 10, 3) := by decide +kernel
theorem dX4_ups_9 : decode cX4_ups 9 = .ok (.iload_n 1, 1) := by decide +kernel
theorem dX4_ups_10 : decode cX4_ups 10 = .ok (.iconst 1, 1) := by decide +kernel
theorem dX4_ups_11 : decode cX4_ups 11 = .ok (.invokevirtual 71, 3) := by decide +kernel
theorem dX4_ups_14 : decode cX4_ups 14 = .ok (.invokevirtual 47, 3) := by decide +kernel
theorem dX4_ups_17 : decode cX4_ups 17 = .ok (.ireturn, 1) := by decide +kernel
theorem dX4_downs_0 : decode cX4_downs 0 = .ok (.aload_n 0, 1) := by decide +kernel
theorem dX4_downs_1 : decode cX4_downs 1 = .ok (.invokevirtual 40, 3) := by decide +kernel
theorem dX4_downs_4 : decode cX4_downs 4 = .ok (.aload_n 0, 1) := by decide +kernel
theorem dX4_downs_5 : decode cX4_downs 5 = .ok (.aload_n 0, 1) := by decide +kernel
theorem dX4_downs_6 : decode cX4_downs 6 = .ok (.getfield 10, 3) := by decide +kernel
theorem dX4_downs_9 : decode cX4_downs 9 = .ok (.iload_n 1, 1) := by decide +kernel
theorem dX4_downs_10 : decode cX4_downs 10 = .ok (.iconst (-1), 1) := by decide +kernel
theorem dX4_downs_11 : decode cX4_downs 11 = .ok (.invokevirtual 71, 3) := by decide +kernel
theorem dX4_downs_14 : decode cX4_downs 14 = .ok (.invokevirtual 47, 3) := by decide +kernel
theorem dX4_downs_17 : decode cX4_downs 17 = .ok (.ireturn, 1) := by decide +kernel
theorem dX4_times_0 : decode cX4_times 0 = .ok (.aload_n 0, 1) := by decide +kernel
theorem dX4_times_1 : decode cX4_times 1 = .ok (.invokevirtual 40, 3) := by decide +kernel
theorem dX4_times_4 : decode cX4_times 4 = .ok (.aload_n 0, 1) := by decide +kernel
theorem dX4_times_5 : decode cX4_times 5 = .ok (.aload_n 0, 1) := by decide +kernel
theorem dX4_times_6 : decode cX4_times 6 = .ok (.getfield 10, 3) := by decide +kernel
theorem dX4_times_9 : decode cX4_times 9 = .ok (.iload_n 1, 1) := by decide +kernel
theorem dX4_times_10 : decode cX4_times 10 = .ok (.iload_n 2, 1) := by decide +kernel
theorem dX4_times_11 : decode cX4_times 11 = .ok (.invokevirtual 74, 3) := by decide +kernel
theorem dX4_times_14 : decode cX4_times 14 = .ok (.invokevirtual 47, 3) := by decide +kernel
theorem dX4_times_17 : decode cX4_times 17 = .ok (.ireturn, 1) := by decide +kernel
theorem dX4_divides_0 : decode cX4_divides 0 = .ok (.aload_n 0, 1) := by decide +kernel
theorem dX4_divides_1 : decode cX4_divides 1 = .ok (.invokevirtual 40, 3) := by decide +kernel
theorem dX4_divides_4 : decode cX4_divides 4 = .ok (.aload_n 0, 1) := by decide +kernel
theorem dX4_divides_5 : decode cX4_divides 5 = .ok (.aload_n 0, 1) := by decide +kernel
theorem dX4_divides_6 : decode cX4_divides 6 = .ok (.getfield 10, 3) := by decide +kernel
theorem dX4_divides_9 : decode cX4_divides 9 = .ok (.invokevirtual 77, 3) := by decide +kernel
theorem dX4_divides_12 : decode cX4_divides 12 = .ok (.invokevirtual 47, 3) := by decide +kernel
theorem dX4_divides_15 : decode cX4_divides 15 = .ok (.ireturn, 1) := by decide +kernel
theorem dX4_turns_0 : decode cX4_turns 0 = .ok (.aload_n 0, 1) := by decide +kernel
theorem dX4_turns_1 : decode cX4_turns 1 = .ok (.iload_n 1, 1) := by decide +kernel
theorem dX4_turns_2 : decode cX4_turns 2 = .ok (.iload_n 2, 1) := by decide +kernel
theorem dX4_turns_3 : decode cX4_turns 3 = .ok (.invokestatic 80, 3) := by decide +kernel
theorem dX4_turns_6 : decode cX4_turns 6 = .ok (.invokevirtual 83, 3) := by decide +kernel
theorem dX4_turns_9 : decode cX4_turns 9 = .ok (.ireturn, 1) := by decide +kernel
theorem dX4_drum_0 : decode cX4_drum 0 = .ok (.aload_n 0, 1) := by decide +kernel
theorem dX4_drum_1 : decode cX4_drum 1 = .ok (.aload_n 0, 1) := by decide +kernel
theorem dX4_drum_2 : decode cX4_drum 2 = .ok (.getfield 10, 3) := by decide +kernel
theorem dX4_drum_5 : decode cX4_drum 5 = .ok (.iload_n 1, 1) := by decide +kernel
theorem dX4_drum_6 : decode cX4_drum 6 = .ok (.iload_n 2, 1) := by decide +kernel
theorem dX4_drum_7 : decode cX4_drum 7 = .ok (.invokevirtual 86, 3) := by decide +kernel
theorem dX4_drum_10 : decode cX4_drum 10 = .ok (.invokevirtual 83, 3) := by decide +kernel
theorem dX4_drum_13 : decode cX4_drum 13 = .ok (.ireturn, 1) := by decide +kernel
theorem dX4_wheel_0 : decode cX4_wheel 0 = .ok (.aload_n 0, 1) := by decide +kernel
theorem dX4_wheel_1 : decode cX4_wheel 1 = .ok (.iload_n 1, 1) := by decide +kernel
theorem dX4_wheel_2 : decode cX4_wheel 2 = .ok (.i2l, 1) := by decide +kernel
theorem dX4_wheel_3 : decode cX4_wheel 3 = .ok (.lconst 0, 1) := by decide +kernel
theorem dX4_wheel_4 : decode cX4_wheel 4 = .ok (.ldc2_w 89, 3) := by decide +kernel
theorem dX4_wheel_7 : decode cX4_wheel 7 = .ok (.invokestatic 91, 3) := by decide +kernel
theorem dX4_wheel_10 : decode cX4_wheel 10 = .ok (.ifCond .eq 15, 3) := by decide +kernel
theorem dX4_wheel_13 : decode cX4_wheel 13 = .ok (.aload_n 0, 1) := by decide +kernel
theorem dX4_wheel_14 : decode cX4_wheel 14 = .ok (.getfield 10, 3) := by decide +kernel
theorem dX4_wheel_17 : decode cX4_wheel 17 = .ok (.getfield 95, 3) := by decide +kernel
theorem dX4_wheel_20 : decode cX4_wheel 20 = .ok (.iload_n 1, 1) := by decide +kernel
theorem dX4_wheel_21 : decode cX4_wheel 21 = .ok (.iaload, 1) := by decide +kernel
theorem dX4_wheel_22 : decode cX4_wheel 22 = .ok (.goto 5, 3) := by decide +kernel
theorem dX4_wheel_25 : decode cX4_wheel 25 = .ok (.bipush (-2), 2) := by decide +kernel
theorem dX4_wheel_27 : decode cX4_wheel 27 = .ok (.invokevirtual 83, 3) := by decide +kernel
theorem dX4_wheel_30 : decode cX4_wheel 30 = .ok (.ireturn, 1) := by decide +kernel
theorem dX4_value_0 : decode cX4_value 0 = .ok (.aload_n 0, 1) := by decide +kernel
theorem dX4_value_1 : decode cX4_value 1 = .ok (.getfield 10, 3) := by decide +kernel
theorem dX4_value_4 : decode cX4_value 4 = .ok (.getfield 95, 3) := by decide +kernel
theorem dX4_value_7 : decode cX4_value 7 = .ok (.invokestatic 99, 3) := by decide +kernel
theorem dX4_value_10 : decode cX4_value 10 = .ok (.lreturn, 1) := by decide +kernel
theorem dX4_counter_0 : decode cX4_counter 0 = .ok (.aload_n 0, 1) := by decide +kernel
theorem dX4_counter_1 : decode cX4_counter 1 = .ok (.iload_n 1, 1) := by decide +kernel
theorem dX4_counter_2 : decode cX4_counter 2 = .ok (.i2l, 1) := by decide +kernel
theorem dX4_counter_3 : decode cX4_counter 3 = .ok (.lconst 0, 1) := by decide +kernel
theorem dX4_counter_4 : decode cX4_counter 4 = .ok (.ldc2_w 103, 3) := by decide +kernel
theorem dX4_counter_7 : decode cX4_counter 7 = .ok (.invokestatic 91, 3) := by decide +kernel
theorem dX4_counter_10 : decode cX4_counter 10 = .ok (.ifCond .eq 15, 3) := by decide +kernel
theorem dX4_counter_13 : decode cX4_counter 13 = .ok (.aload_n 0, 1) := by decide +kernel
theorem dX4_counter_14 : decode cX4_counter 14 = .ok (.getfield 10, 3) := by decide +kernel
theorem dX4_counter_17 : decode cX4_counter 17 = .ok (.getfield 105, 3) := by decide +kernel
theorem dX4_counter_20 : decode cX4_counter 20 = .ok (.iload_n 1, 1) := by decide +kernel
theorem dX4_counter_21 : decode cX4_counter 21 = .ok (.iaload, 1) := by decide +kernel
theorem dX4_counter_22 : decode cX4_counter 22 = .ok (.goto 5, 3) := by decide +kernel
theorem dX4_counter_25 : decode cX4_counter 25 = .ok (.bipush (-2), 2) := by decide +kernel
theorem dX4_counter_27 : decode cX4_counter 27 = .ok (.invokevirtual 83, 3) := by decide +kernel
theorem dX4_counter_30 : decode cX4_counter 30 = .ok (.ireturn, 1) := by decide +kernel
theorem dX4_count_0 : decode cX4_count 0 = .ok (.aload_n 0, 1) := by decide +kernel
theorem dX4_count_1 : decode cX4_count 1 = .ok (.aload_n 0, 1) := by decide +kernel
theorem dX4_count_2 : decode cX4_count 2 = .ok (.getfield 10, 3) := by decide +kernel
theorem dX4_count_5 : decode cX4_count 5 = .ok (.iload_n 1, 1) := by decide +kernel
theorem dX4_count_6 : decode cX4_count 6 = .ok (.invokevirtual 108, 3) := by decide +kernel
theorem dX4_count_9 : decode cX4_count 9 = .ok (.invokevirtual 83, 3) := by decide +kernel
theorem dX4_count_12 : decode cX4_count 12 = .ok (.ireturn, 1) := by decide +kernel
theorem dX4_trial_0 : decode cX4_trial 0 = .ok (.iload_n 1, 1) := by decide +kernel
theorem dX4_trial_1 : decode cX4_trial 1 = .ok (.i2l, 1) := by decide +kernel
theorem dX4_trial_2 : decode cX4_trial 2 = .ok (.lconst 1, 1) := by decide +kernel
theorem dX4_trial_3 : decode cX4_trial 3 = .ok (.ldc2_w 111, 3) := by decide +kernel
theorem dX4_trial_6 : decode cX4_trial 6 = .ok (.invokestatic 91, 3) := by decide +kernel
theorem dX4_trial_9 : decode cX4_trial 9 = .ok (.ifCond .ne 11, 3) := by decide +kernel
theorem dX4_trial_12 : decode cX4_trial 12 = .ok (.aload_n 0, 1) := by decide +kernel
theorem dX4_trial_13 : decode cX4_trial 13 = .ok (.bipush (-2), 2) := by decide +kernel
theorem dX4_trial_15 : decode cX4_trial 15 = .ok (.invokevirtual 83, 3) := by decide +kernel
theorem dX4_trial_18 : decode cX4_trial 18 = .ok (.i2l, 1) := by decide +kernel
theorem dX4_trial_19 : decode cX4_trial 19 = .ok (.lreturn, 1) := by decide +kernel
theorem dX4_trial_20 : decode cX4_trial 20 = .ok (.aload_n 0, 1) := by decide +kernel
theorem dX4_trial_21 : decode cX4_trial 21 = .ok (.getfield 10, 3) := by decide +kernel
theorem dX4_trial_24 : decode cX4_trial 24 = .ok (.aload_n 0, 1) := by decide +kernel
theorem dX4_trial_25 : decode cX4_trial 25 = .ok (.getfield 10, 3) := by decide +kernel
theorem dX4_trial_28 : decode cX4_trial 28 = .ok (.invokevirtual 113, 3) := by decide +kernel
theorem dX4_trial_31 : decode cX4_trial 31 = .ok (.iload_n 1, 1) := by decide +kernel
theorem dX4_trial_32 : decode cX4_trial 32 = .ok (.invokevirtual 116, 3) := by decide +kernel
theorem dX4_trial_35 : decode cX4_trial 35 = .ok (.lreturn, 1) := by decide +kernel
theorem dX4_explains_0 : decode cX4_explains 0 = .ok (.lload_n 1, 1) := by decide +kernel
theorem dX4_explains_1 : decode cX4_explains 1 = .ok (.lconst 0, 1) := by decide +kernel
theorem dX4_explains_2 : decode cX4_explains 2 = .ok (.ldc2_w 120, 3) := by decide +kernel
theorem dX4_explains_5 : decode cX4_explains 5 = .ok (.invokestatic 91, 3) := by decide +kernel
theorem dX4_explains_8 : decode cX4_explains 8 = .ok (.ifCond .eq 28, 3) := by decide +kernel
theorem dX4_explains_11 : decode cX4_explains 11 = .ok (.iload_n 3, 1) := by decide +kernel
theorem dX4_explains_12 : decode cX4_explains 12 = .ok (.i2l, 1) := by decide +kernel
theorem dX4_explains_13 : decode cX4_explains 13 = .ok (.lconst 1, 1) := by decide +kernel
theorem dX4_explains_14 : decode cX4_explains 14 = .ok (.ldc2_w 111, 3) := by decide +kernel
theorem dX4_explains_17 : decode cX4_explains 17 = .ok (.invokestatic 91, 3) := by decide +kernel
theorem dX4_explains_20 : decode cX4_explains 20 = .ok (.ifCond .eq 16, 3) := by decide +kernel
theorem dX4_explains_23 : decode cX4_explains 23 = .ok (.iload 4, 2) := by decide +kernel
theorem dX4_explains_25 : decode cX4_explains 25 = .ok (.i2l, 1) := by decide +kernel
theorem dX4_explains_26 : decode cX4_explains 26 = .ok (.lconst 0, 1) := by decide +kernel
theorem dX4_explains_27 : decode cX4_explains 27 = .ok (.ldc2_w 122, 3) := by decide +kernel
theorem dX4_explains_30 : decode cX4_explains 30 = .ok (.invokestatic 91, 3) := by decide +kernel
theorem dX4_explains_33 : decode cX4_explains 33 = .ok (.ifCond .ne 10, 3) := by decide +kernel
theorem dX4_explains_36 : decode cX4_explains 36 = .ok (.aload_n 0, 1) := by decide +kernel
theorem dX4_explains_37 : decode cX4_explains 37 = .ok (.bipush (-2), 2) := by decide +kernel
theorem dX4_explains_39 : decode cX4_explains 39 = .ok (.invokevirtual 83, 3) := by decide +kernel
theorem dX4_explains_42 : decode cX4_explains 42 = .ok (.ireturn, 1) := by decide +kernel
theorem dX4_explains_43 : decode cX4_explains 43 = .ok (.aload_n 0, 1) := by decide +kernel
theorem dX4_explains_44 : decode cX4_explains 44 = .ok (.getfield 10, 3) := by decide +kernel
theorem dX4_explains_47 : decode cX4_explains 47 = .ok (.lload_n 1, 1) := by decide +kernel
theorem dX4_explains_48 : decode cX4_explains 48 = .ok (.iload_n 3, 1) := by decide +kernel
theorem dX4_explains_49 : decode cX4_explains 49 = .ok (.iload 4, 2) := by decide +kernel
theorem dX4_explains_51 : decode cX4_explains 51 = .ok (.invokevirtual 124, 3) := by decide +kernel
theorem dX4_explains_54 : decode cX4_explains 54 = .ok (.ireturn, 1) := by decide +kernel
theorem dX4_type_0 : decode cX4_type 0 = .ok (.aload_n 0, 1) := by decide +kernel
theorem dX4_type_1 : decode cX4_type 1 = .ok (.aload_n 0, 1) := by decide +kernel
theorem dX4_type_2 : decode cX4_type 2 = .ok (.getfield 29, 3) := by decide +kernel
theorem dX4_type_5 : decode cX4_type 5 = .ok (.iload_n 1, 1) := by decide +kernel
theorem dX4_type_6 : decode cX4_type 6 = .ok (.invokevirtual 128, 3) := by decide +kernel
theorem dX4_type_9 : decode cX4_type 9 = .ok (.invokevirtual 83, 3) := by decide +kernel
theorem dX4_type_12 : decode cX4_type 12 = .ok (.ireturn, 1) := by decide +kernel
theorem dX4_wipes_0 : decode cX4_wipes 0 = .ok (.aload_n 0, 1) := by decide +kernel
theorem dX4_wipes_1 : decode cX4_wipes 1 = .ok (.getfield 29, 3) := by decide +kernel
theorem dX4_wipes_4 : decode cX4_wipes 4 = .ok (.invokevirtual 131, 3) := by decide +kernel
theorem dX4_wipes_7 : decode cX4_wipes 7 = .ok (.ireturn, 1) := by decide +kernel
theorem dX4_does_0 : decode cX4_does 0 = .ok (.aload_n 0, 1) := by decide +kernel
theorem dX4_does_1 : decode cX4_does 1 = .ok (.getfield 36, 3) := by decide +kernel
theorem dX4_does_4 : decode cX4_does 4 = .ok (.aload_n 0, 1) := by decide +kernel
theorem dX4_does_5 : decode cX4_does 5 = .ok (.getfield 29, 3) := by decide +kernel
theorem dX4_does_8 : decode cX4_does 8 = .ok (.invokevirtual 134, 3) := by decide +kernel
theorem dX4_does_11 : decode cX4_does 11 = .ok (.istore_n 1, 1) := by decide +kernel
theorem dX4_does_12 : decode cX4_does 12 = .ok (.iload_n 1, 1) := by decide +kernel
theorem dX4_does_13 : decode cX4_does 13 = .ok (.iconst (-1), 1) := by decide +kernel
theorem dX4_does_14 : decode cX4_does 14 = .ok (.if_icmp .eq 8, 3) := by decide +kernel
theorem dX4_does_17 : decode cX4_does 17 = .ok (.bipush (-10), 2) := by decide +kernel
theorem dX4_does_19 : decode cX4_does 19 = .ok (.iload_n 1, 1) := by decide +kernel
theorem dX4_does_20 : decode cX4_does 20 = .ok (.isub, 1) := by decide +kernel
theorem dX4_does_21 : decode cX4_does 21 = .ok (.ireturn, 1) := by decide +kernel
theorem dX4_does_22 : decode cX4_does 22 = .ok (.aload_n 0, 1) := by decide +kernel
theorem dX4_does_23 : decode cX4_does 23 = .ok (.invokevirtual 40, 3) := by decide +kernel
theorem dX4_does_26 : decode cX4_does 26 = .ok (.iconst 0, 1) := by decide +kernel
theorem dX4_does_27 : decode cX4_does 27 = .ok (.istore_n 2, 1) := by decide +kernel
theorem dX4_does_28 : decode cX4_does 28 = .ok (.iload_n 2, 1) := by decide +kernel
theorem dX4_does_29 : decode cX4_does 29 = .ok (.aload_n 0, 1) := by decide +kernel
theorem dX4_does_30 : decode cX4_does 30 = .ok (.getfield 36, 3) := by decide +kernel
theorem dX4_does_33 : decode cX4_does 33 = .ok (.getfield 138, 3) := by decide +kernel
theorem dX4_does_36 : decode cX4_does 36 = .ok (.if_icmp .ge 60, 3) := by decide +kernel
theorem dX4_does_39 : decode cX4_does 39 = .ok (.aload_n 0, 1) := by decide +kernel
theorem dX4_does_40 : decode cX4_does 40 = .ok (.aload_n 0, 1) := by decide +kernel
theorem dX4_does_41 : decode cX4_does 41 = .ok (.getfield 36, 3) := by decide +kernel
theorem dX4_does_44 : decode cX4_does 44 = .ok (.getfield 142, 3) := by decide +kernel
theorem dX4_does_47 : decode cX4_does 47 = .ok (.iload_n 2, 1) := by decide +kernel
theorem dX4_does_48 : decode cX4_does 48 = .ok (.iaload, 1) := by decide +kernel
theorem dX4_does_49 : decode cX4_does 49 = .ok (.aload_n 0, 1) := by decide +kernel
theorem dX4_does_50 : decode cX4_does 50 = .ok (.getfield 36, 3) := by decide +kernel
theorem dX4_does_53 : decode cX4_does 53 = .ok (.getfield 145, 3) := by decide +kernel
theorem dX4_does_56 : decode cX4_does 56 = .ok (.iload_n 2, 1) := by decide +kernel
theorem dX4_does_57 : decode cX4_does 57 = .ok (.iaload, 1) := by decide +kernel
theorem dX4_does_58 : decode cX4_does 58 = .ok (.aload_n 0, 1) := by decide +kernel
theorem dX4_does_59 : decode cX4_does 59 = .ok (.getfield 36, 3) := by decide +kernel
theorem dX4_does_62 : decode cX4_does 62 = .ok (.getfield 148, 3) := by decide +kernel
theorem dX4_does_65 : decode cX4_does 65 = .ok (.iload_n 2, 1) := by decide +kernel
theorem dX4_does_66 : decode cX4_does 66 = .ok (.iaload, 1) := by decide +kernel
theorem dX4_does_67 : decode cX4_does 67 = .ok (.invokevirtual 151, 3) := by decide +kernel
theorem dX4_does_70 : decode cX4_does 70 = .ok (.ifCond .ge 20, 3) := by decide +kernel
theorem dX4_does_73 : decode cX4_does 73 = .ok (.aload_n 0, 1) := by decide +kernel
theorem dX4_does_74 : decode cX4_does 74 = .ok (.getfield 10, 3) := by decide +kernel
theorem dX4_does_77 : decode cX4_does 77 = .ok (.aload_n 0, 1) := by decide +kernel
theorem dX4_does_78 : decode cX4_does 78 = .ok (.getfield 16, 3) := by decide +kernel
theorem dX4_does_81 : decode cX4_does 81 = .ok (.invokevirtual 155, 3) := by decide +kernel
theorem dX4_does_84 : decode cX4_does 84 = .ok (.sipush (-1000), 3) := by decide +kernel
theorem dX4_does_87 : decode cX4_does 87 = .ok (.iload_n 2, 1) := by decide +kernel
theorem dX4_does_88 : decode cX4_does 88 = .ok (.isub, 1) := by decide +kernel
theorem dX4_does_89 : decode cX4_does 89 = .ok (.ireturn, 1) := by decide +kernel
theorem dX4_does_90 : decode cX4_does 90 = .ok (.iinc 2 1, 3) := by decide +kernel
theorem dX4_does_93 : decode cX4_does 93 = .ok (.goto (-65), 3) := by decide +kernel
theorem dX4_does_96 : decode cX4_does 96 = .ok (.aload_n 0, 1) := by decide +kernel
theorem dX4_does_97 : decode cX4_does 97 = .ok (.getfield 22, 3) := by decide +kernel
theorem dX4_does_100 : decode cX4_does 100 = .ok (.aload_n 0, 1) := by decide +kernel
theorem dX4_does_101 : decode cX4_does 101 = .ok (.getfield 16, 3) := by decide +kernel
theorem dX4_does_104 : decode cX4_does 104 = .ok (.invokevirtual 159, 3) := by decide +kernel
theorem dX4_does_107 : decode cX4_does 107 = .ok (.aload_n 0, 1) := by decide +kernel
theorem dX4_does_108 : decode cX4_does 108 = .ok (.getfield 36, 3) := by decide +kernel
theorem dX4_does_111 : decode cX4_does 111 = .ok (.getfield 138, 3) := by decide +kernel
theorem dX4_does_114 : decode cX4_does 114 = .ok (.ireturn, 1) := by decide +kernel
theorem dX4_back_0 : decode cX4_back 0 = .ok (.aload_n 0, 1) := by decide +kernel
theorem dX4_back_1 : decode cX4_back 1 = .ok (.getfield 22, 3) := by decide +kernel
theorem dX4_back_4 : decode cX4_back 4 = .ok (.getfield 162, 3) := by decide +kernel
theorem dX4_back_7 : decode cX4_back 7 = .ok (.ifCond .ne 10, 3) := by decide +kernel
theorem dX4_back_10 : decode cX4_back 10 = .ok (.aload_n 0, 1) := by decide +kernel
theorem dX4_back_11 : decode cX4_back 11 = .ok (.bipush (-3), 2) := by decide +kernel
theorem dX4_back_13 : decode cX4_back 13 = .ok (.invokevirtual 83, 3) := by decide +kernel
theorem dX4_back_16 : decode cX4_back 16 = .ok (.ireturn, 1) := by decide +kernel
theorem dX4_back_17 : decode cX4_back 17 = .ok (.aload_n 0, 1) := by decide +kernel
theorem dX4_back_18 : decode cX4_back 18 = .ok (.getfield 22, 3) := by decide +kernel
theorem dX4_back_21 : decode cX4_back 21 = .ok (.aload_n 0, 1) := by decide +kernel
theorem dX4_back_22 : decode cX4_back 22 = .ok (.getfield 10, 3) := by decide +kernel
theorem dX4_back_25 : decode cX4_back 25 = .ok (.invokevirtual 163, 3) := by decide +kernel
theorem dX4_back_28 : decode cX4_back 28 = .ok (.aload_n 0, 1) := by decide +kernel
theorem dX4_back_29 : decode cX4_back 29 = .ok (.getfield 22, 3) := by decide +kernel
theorem dX4_back_32 : decode cX4_back 32 = .ok (.getfield 162, 3) := by decide +kernel
theorem dX4_back_35 : decode cX4_back 35 = .ok (.ireturn, 1) := by decide +kernel
theorem dX4_told_0 : decode cX4_told 0 = .ok (.iload_n 1, 1) := by decide +kernel
theorem dX4_told_1 : decode cX4_told 1 = .ok (.tableswitch 66 0 4 #[35, 40, 45, 50, 58], 35) := by decide +kernel
theorem dX4_told_36 : decode cX4_told 36 = .ok (.aload_n 0, 1) := by decide +kernel
theorem dX4_told_37 : decode cX4_told 37 = .ok (.getfield 166, 3) := by decide +kernel
theorem dX4_told_40 : decode cX4_told 40 = .ok (.ireturn, 1) := by decide +kernel
theorem dX4_told_41 : decode cX4_told 41 = .ok (.aload_n 0, 1) := by decide +kernel
theorem dX4_told_42 : decode cX4_told 42 = .ok (.getfield 169, 3) := by decide +kernel
theorem dX4_told_45 : decode cX4_told 45 = .ok (.ireturn, 1) := by decide +kernel
theorem dX4_told_46 : decode cX4_told 46 = .ok (.aload_n 0, 1) := by decide +kernel
theorem dX4_told_47 : decode cX4_told 47 = .ok (.getfield 172, 3) := by decide +kernel
theorem dX4_told_50 : decode cX4_told 50 = .ok (.ireturn, 1) := by decide +kernel
theorem dX4_told_51 : decode cX4_told 51 = .ok (.aload_n 0, 1) := by decide +kernel
theorem dX4_told_52 : decode cX4_told 52 = .ok (.getfield 29, 3) := by decide +kernel
theorem dX4_told_55 : decode cX4_told 55 = .ok (.getfield 175, 3) := by decide +kernel
theorem dX4_told_58 : decode cX4_told 58 = .ok (.ireturn, 1) := by decide +kernel
theorem dX4_told_59 : decode cX4_told 59 = .ok (.aload_n 0, 1) := by decide +kernel
theorem dX4_told_60 : decode cX4_told 60 = .ok (.getfield 22, 3) := by decide +kernel
theorem dX4_told_63 : decode cX4_told 63 = .ok (.getfield 162, 3) := by decide +kernel
theorem dX4_told_66 : decode cX4_told 66 = .ok (.ireturn, 1) := by decide +kernel
theorem dX4_told_67 : decode cX4_told 67 = .ok (.aload_n 0, 1) := by decide +kernel
theorem dX4_told_68 : decode cX4_told 68 = .ok (.bipush (-2), 2) := by decide +kernel
theorem dX4_told_70 : decode cX4_told 70 = .ok (.invokevirtual 83, 3) := by decide +kernel
theorem dX4_told_73 : decode cX4_told 73 = .ok (.ireturn, 1) := by decide +kernel
theorem dX4_digest_0 : decode cX4_digest 0 = .ok (.ldc2_w 178, 3) := by decide +kernel
theorem dX4_digest_3 : decode cX4_digest 3 = .ok (.lstore_n 1, 1) := by decide +kernel
theorem dX4_digest_4 : decode cX4_digest 4 = .ok (.iconst 0, 1) := by decide +kernel
theorem dX4_digest_5 : decode cX4_digest 5 = .ok (.istore_n 3, 1) := by decide +kernel
theorem dX4_digest_6 : decode cX4_digest 6 = .ok (.iload_n 3, 1) := by decide +kernel
theorem dX4_digest_7 : decode cX4_digest 7 = .ok (.iconst 4, 1) := by decide +kernel
theorem dX4_digest_8 : decode cX4_digest 8 = .ok (.if_icmp .gt 22, 3) := by decide +kernel
theorem dX4_digest_11 : decode cX4_digest 11 = .ok (.ldc2_w 180, 3) := by decide +kernel
theorem dX4_digest_14 : decode cX4_digest 14 = .ok (.lload_n 1, 1) := by decide +kernel
theorem dX4_digest_15 : decode cX4_digest 15 = .ok (.lmul, 1) := by decide +kernel
theorem dX4_digest_16 : decode cX4_digest 16 = .ok (.aload_n 0, 1) := by decide +kernel
theorem dX4_digest_17 : decode cX4_digest 17 = .ok (.iload_n 3, 1) := by decide +kernel
theorem dX4_digest_18 : decode cX4_digest 18 = .ok (.invokevirtual 182, 3) := by decide +kernel
theorem dX4_digest_21 : decode cX4_digest 21 = .ok (.i2l, 1) := by decide +kernel
theorem dX4_digest_22 : decode cX4_digest 22 = .ok (.ladd, 1) := by decide +kernel
theorem dX4_digest_23 : decode cX4_digest 23 = .ok (.lstore_n 1, 1) := by decide +kernel
theorem dX4_digest_24 : decode cX4_digest 24 = .ok (.iinc 3 1, 3) := by decide +kernel
theorem dX4_digest_27 : decode cX4_digest 27 = .ok (.goto (-21), 3) := by decide +kernel
theorem dX4_digest_30 : decode cX4_digest 30 = .ok (.iconst 0, 1) := by decide +kernel
theorem dX4_digest_31 : decode cX4_digest 31 = .ok (.istore_n 3, 1) := by decide +kernel
theorem dX4_digest_32 : decode cX4_digest 32 = .ok (.iload_n 3, 1) := by decide +kernel
theorem dX4_digest_33 : decode cX4_digest 33 = .ok (.bipush 7, 2) := by decide +kernel
theorem dX4_digest_35 : decode cX4_digest 35 = .ok (.if_icmp .gt 22, 3) := by decide +kernel
theorem dX4_digest_38 : decode cX4_digest 38 = .ok (.ldc2_w 180, 3) := by decide +kernel
theorem dX4_digest_41 : decode cX4_digest 41 = .ok (.lload_n 1, 1) := by decide +kernel
theorem dX4_digest_42 : decode cX4_digest 42 = .ok (.lmul, 1) := by decide +kernel
theorem dX4_digest_43 : decode cX4_digest 43 = .ok (.aload_n 0, 1) := by decide +kernel
theorem dX4_digest_44 : decode cX4_digest 44 = .ok (.iload_n 3, 1) := by decide +kernel
theorem dX4_digest_45 : decode cX4_digest 45 = .ok (.invokevirtual 185, 3) := by decide +kernel
theorem dX4_digest_48 : decode cX4_digest 48 = .ok (.i2l, 1) := by decide +kernel
theorem dX4_digest_49 : decode cX4_digest 49 = .ok (.ladd, 1) := by decide +kernel
theorem dX4_digest_50 : decode cX4_digest 50 = .ok (.lstore_n 1, 1) := by decide +kernel
theorem dX4_digest_51 : decode cX4_digest 51 = .ok (.iinc 3 1, 3) := by decide +kernel
theorem dX4_digest_54 : decode cX4_digest 54 = .ok (.goto (-22), 3) := by decide +kernel
theorem dX4_digest_57 : decode cX4_digest 57 = .ok (.iconst 0, 1) := by decide +kernel
theorem dX4_digest_58 : decode cX4_digest 58 = .ok (.istore_n 3, 1) := by decide +kernel
theorem dX4_digest_59 : decode cX4_digest 59 = .ok (.iload_n 3, 1) := by decide +kernel
theorem dX4_digest_60 : decode cX4_digest 60 = .ok (.bipush 6, 2) := by decide +kernel
theorem dX4_digest_62 : decode cX4_digest 62 = .ok (.if_icmp .ge 39, 3) := by decide +kernel
theorem dX4_digest_65 : decode cX4_digest 65 = .ok (.iconst 0, 1) := by decide +kernel
theorem dX4_digest_66 : decode cX4_digest 66 = .ok (.istore 4, 2) := by decide +kernel
theorem dX4_digest_68 : decode cX4_digest 68 = .ok (.iload 4, 2) := by decide +kernel
theorem dX4_digest_70 : decode cX4_digest 70 = .ok (.iconst 2, 1) := by decide +kernel
theorem dX4_digest_71 : decode cX4_digest 71 = .ok (.if_icmp .gt 24, 3) := by decide +kernel
theorem dX4_digest_74 : decode cX4_digest 74 = .ok (.ldc2_w 180, 3) := by decide +kernel
theorem dX4_digest_77 : decode cX4_digest 77 = .ok (.lload_n 1, 1) := by decide +kernel
theorem dX4_digest_78 : decode cX4_digest 78 = .ok (.lmul, 1) := by decide +kernel
theorem dX4_digest_79 : decode cX4_digest 79 = .ok (.aload_n 0, 1) := by decide +kernel
theorem dX4_digest_80 : decode cX4_digest 80 = .ok (.iload_n 3, 1) := by decide +kernel
theorem dX4_digest_81 : decode cX4_digest 81 = .ok (.iload 4, 2) := by decide +kernel
theorem dX4_digest_83 : decode cX4_digest 83 = .ok (.invokevirtual 188, 3) := by decide +kernel
theorem dX4_digest_86 : decode cX4_digest 86 = .ok (.i2l, 1) := by decide +kernel
theorem dX4_digest_87 : decode cX4_digest 87 = .ok (.ladd, 1) := by decide +kernel
theorem dX4_digest_88 : decode cX4_digest 88 = .ok (.lstore_n 1, 1) := by decide +kernel
theorem dX4_digest_89 : decode cX4_digest 89 = .ok (.iinc 4 1, 3) := by decide +kernel
theorem dX4_digest_92 : decode cX4_digest 92 = .ok (.goto (-24), 3) := by decide +kernel
theorem dX4_digest_95 : decode cX4_digest 95 = .ok (.iinc 3 1, 3) := by decide +kernel
theorem dX4_digest_98 : decode cX4_digest 98 = .ok (.goto (-39), 3) := by decide +kernel
theorem dX4_digest_101 : decode cX4_digest 101 = .ok (.iconst 0, 1) := by decide +kernel
theorem dX4_digest_102 : decode cX4_digest 102 = .ok (.istore_n 3, 1) := by decide +kernel
theorem dX4_digest_103 : decode cX4_digest 103 = .ok (.iload_n 3, 1) := by decide +kernel
theorem dX4_digest_104 : decode cX4_digest 104 = .ok (.bipush 12, 2) := by decide +kernel
theorem dX4_digest_106 : decode cX4_digest 106 = .ok (.if_icmp .ge 22, 3) := by decide +kernel
theorem dX4_digest_109 : decode cX4_digest 109 = .ok (.ldc2_w 180, 3) := by decide +kernel
theorem dX4_digest_112 : decode cX4_digest 112 = .ok (.lload_n 1, 1) := by decide +kernel
theorem dX4_digest_113 : decode cX4_digest 113 = .ok (.lmul, 1) := by decide +kernel
theorem dX4_digest_114 : decode cX4_digest 114 = .ok (.aload_n 0, 1) := by decide +kernel
theorem dX4_digest_115 : decode cX4_digest 115 = .ok (.iload_n 3, 1) := by decide +kernel
theorem dX4_digest_116 : decode cX4_digest 116 = .ok (.invokevirtual 191, 3) := by decide +kernel
theorem dX4_digest_119 : decode cX4_digest 119 = .ok (.i2l, 1) := by decide +kernel
theorem dX4_digest_120 : decode cX4_digest 120 = .ok (.ladd, 1) := by decide +kernel
theorem dX4_digest_121 : decode cX4_digest 121 = .ok (.lstore_n 1, 1) := by decide +kernel
theorem dX4_digest_122 : decode cX4_digest 122 = .ok (.iinc 3 1, 3) := by decide +kernel
theorem dX4_digest_125 : decode cX4_digest 125 = .ok (.goto (-22), 3) := by decide +kernel
theorem dX4_digest_128 : decode cX4_digest 128 = .ok (.iconst 0, 1) := by decide +kernel
theorem dX4_digest_129 : decode cX4_digest 129 = .ok (.istore_n 3, 1) := by decide +kernel
theorem dX4_digest_130 : decode cX4_digest 130 = .ok (.iload_n 3, 1) := by decide +kernel
theorem dX4_digest_131 : decode cX4_digest 131 = .ok (.bipush 7, 2) := by decide +kernel
theorem dX4_digest_133 : decode cX4_digest 133 = .ok (.if_icmp .ge 22, 3) := by decide +kernel
theorem dX4_digest_136 : decode cX4_digest 136 = .ok (.ldc2_w 180, 3) := by decide +kernel
theorem dX4_digest_139 : decode cX4_digest 139 = .ok (.lload_n 1, 1) := by decide +kernel
theorem dX4_digest_140 : decode cX4_digest 140 = .ok (.lmul, 1) := by decide +kernel
theorem dX4_digest_141 : decode cX4_digest 141 = .ok (.aload_n 0, 1) := by decide +kernel
theorem dX4_digest_142 : decode cX4_digest 142 = .ok (.iload_n 3, 1) := by decide +kernel
theorem dX4_digest_143 : decode cX4_digest 143 = .ok (.invokevirtual 194, 3) := by decide +kernel
theorem dX4_digest_146 : decode cX4_digest 146 = .ok (.i2l, 1) := by decide +kernel
theorem dX4_digest_147 : decode cX4_digest 147 = .ok (.ladd, 1) := by decide +kernel
theorem dX4_digest_148 : decode cX4_digest 148 = .ok (.lstore_n 1, 1) := by decide +kernel
theorem dX4_digest_149 : decode cX4_digest 149 = .ok (.iinc 3 1, 3) := by decide +kernel
theorem dX4_digest_152 : decode cX4_digest 152 = .ok (.goto (-22), 3) := by decide +kernel
theorem dX4_digest_155 : decode cX4_digest 155 = .ok (.ldc2_w 180, 3) := by decide +kernel
theorem dX4_digest_158 : decode cX4_digest 158 = .ok (.lload_n 1, 1) := by decide +kernel
theorem dX4_digest_159 : decode cX4_digest 159 = .ok (.lmul, 1) := by decide +kernel
theorem dX4_digest_160 : decode cX4_digest 160 = .ok (.aload_n 0, 1) := by decide +kernel
theorem dX4_digest_161 : decode cX4_digest 161 = .ok (.invokevirtual 197, 3) := by decide +kernel
theorem dX4_digest_164 : decode cX4_digest 164 = .ok (.ladd, 1) := by decide +kernel
theorem dX4_digest_165 : decode cX4_digest 165 = .ok (.lstore_n 1, 1) := by decide +kernel
theorem dX4_digest_166 : decode cX4_digest 166 = .ok (.ldc2_w 180, 3) := by decide +kernel
theorem dX4_digest_169 : decode cX4_digest 169 = .ok (.lload_n 1, 1) := by decide +kernel
theorem dX4_digest_170 : decode cX4_digest 170 = .ok (.lmul, 1) := by decide +kernel
theorem dX4_digest_171 : decode cX4_digest 171 = .ok (.aload_n 0, 1) := by decide +kernel
theorem dX4_digest_172 : decode cX4_digest 172 = .ok (.bipush 9, 2) := by decide +kernel
theorem dX4_digest_174 : decode cX4_digest 174 = .ok (.invokevirtual 201, 3) := by decide +kernel
theorem dX4_digest_177 : decode cX4_digest 177 = .ok (.ladd, 1) := by decide +kernel
theorem dX4_digest_178 : decode cX4_digest 178 = .ok (.lstore_n 1, 1) := by decide +kernel
theorem dX4_digest_179 : decode cX4_digest 179 = .ok (.ldc2_w 180, 3) := by decide +kernel
theorem dX4_digest_182 : decode cX4_digest 182 = .ok (.lload_n 1, 1) := by decide +kernel
theorem dX4_digest_183 : decode cX4_digest 183 = .ok (.lmul, 1) := by decide +kernel
theorem dX4_digest_184 : decode cX4_digest 184 = .ok (.aload_n 0, 1) := by decide +kernel
theorem dX4_digest_185 : decode cX4_digest 185 = .ok (.aload_n 0, 1) := by decide +kernel
theorem dX4_digest_186 : decode cX4_digest 186 = .ok (.invokevirtual 197, 3) := by decide +kernel
theorem dX4_digest_189 : decode cX4_digest 189 = .ok (.iconst 3, 1) := by decide +kernel
theorem dX4_digest_190 : decode cX4_digest 190 = .ok (.iconst 0, 1) := by decide +kernel
theorem dX4_digest_191 : decode cX4_digest 191 = .ok (.invokevirtual 205, 3) := by decide +kernel
theorem dX4_digest_194 : decode cX4_digest 194 = .ok (.i2l, 1) := by decide +kernel
theorem dX4_digest_195 : decode cX4_digest 195 = .ok (.ladd, 1) := by decide +kernel
theorem dX4_digest_196 : decode cX4_digest 196 = .ok (.lreturn, 1) := by decide +kernel
theorem dX4_remember_0 : decode cX4_remember 0 = .ok (.aload_n 0, 1) := by decide +kernel
theorem dX4_remember_1 : decode cX4_remember 1 = .ok (.getfield 16, 3) := by decide +kernel
theorem dX4_remember_4 : decode cX4_remember 4 = .ok (.aload_n 0, 1) := by decide +kernel
theorem dX4_remember_5 : decode cX4_remember 5 = .ok (.getfield 10, 3) := by decide +kernel
theorem dX4_remember_8 : decode cX4_remember 8 = .ok (.invokevirtual 155, 3) := by decide +kernel
theorem dX4_remember_11 : decode cX4_remember 11 = .ok (.return_, 1) := by decide +kernel
theorem dX4_settled_0 : decode cX4_settled 0 = .ok (.iload_n 1, 1) := by decide +kernel
theorem dX4_settled_1 : decode cX4_settled 1 = .ok (.ifCond .ge 20, 3) := by decide +kernel
theorem dX4_settled_4 : decode cX4_settled 4 = .ok (.aload_n 0, 1) := by decide +kernel
theorem dX4_settled_5 : decode cX4_settled 5 = .ok (.getfield 10, 3) := by decide +kernel
theorem dX4_settled_8 : decode cX4_settled 8 = .ok (.aload_n 0, 1) := by decide +kernel
theorem dX4_settled_9 : decode cX4_settled 9 = .ok (.getfield 16, 3) := by decide +kernel
theorem dX4_settled_12 : decode cX4_settled 12 = .ok (.invokevirtual 155, 3) := by decide +kernel
theorem dX4_settled_15 : decode cX4_settled 15 = .ok (.aload_n 0, 1) := by decide +kernel
theorem dX4_settled_16 : decode cX4_settled 16 = .ok (.iload_n 1, 1) := by decide +kernel
theorem dX4_settled_17 : decode cX4_settled 17 = .ok (.invokevirtual 83, 3) := by decide +kernel
theorem dX4_settled_20 : decode cX4_settled 20 = .ok (.ireturn, 1) := by decide +kernel
theorem dX4_settled_21 : decode cX4_settled 21 = .ok (.aload_n 0, 1) := by decide +kernel
theorem dX4_settled_22 : decode cX4_settled 22 = .ok (.getfield 22, 3) := by decide +kernel
theorem dX4_settled_25 : decode cX4_settled 25 = .ok (.aload_n 0, 1) := by decide +kernel
theorem dX4_settled_26 : decode cX4_settled 26 = .ok (.getfield 16, 3) := by decide +kernel
theorem dX4_settled_29 : decode cX4_settled 29 = .ok (.invokevirtual 159, 3) := by decide +kernel
theorem dX4_settled_32 : decode cX4_settled 32 = .ok (.iload_n 1, 1) := by decide +kernel
theorem dX4_settled_33 : decode cX4_settled 33 = .ok (.ireturn, 1) := by decide +kernel
theorem dX4_counted_0 : decode cX4_counted 0 = .ok (.iload_n 1, 1) := by decide +kernel
theorem dX4_counted_1 : decode cX4_counted 1 = .ok (.bipush (-2), 2) := by decide +kernel
theorem dX4_counted_3 : decode cX4_counted 3 = .ok (.if_icmp .ne 16, 3) := by decide +kernel
theorem dX4_counted_6 : decode cX4_counted 6 = .ok (.aload_n 0, 1) := by decide +kernel
theorem dX4_counted_7 : decode cX4_counted 7 = .ok (.dup, 1) := by decide +kernel
theorem dX4_counted_8 : decode cX4_counted 8 = .ok (.getfield 166, 3) := by decide +kernel
theorem dX4_counted_11 : decode cX4_counted 11 = .ok (.iconst 1, 1) := by decide +kernel
theorem dX4_counted_12 : decode cX4_counted 12 = .ok (.iadd, 1) := by decide +kernel
theorem dX4_counted_13 : decode cX4_counted 13 = .ok (.putfield 166, 3) := by decide +kernel
theorem dX4_counted_16 : decode cX4_counted 16 = .ok (.goto 38, 3) := by decide +kernel
theorem dX4_counted_19 : decode cX4_counted 19 = .ok (.iload_n 1, 1) := by decide +kernel
theorem dX4_counted_20 : decode cX4_counted 20 = .ok (.bipush (-3), 2) := by decide +kernel
theorem dX4_counted_22 : decode cX4_counted 22 = .ok (.if_icmp .ne 16, 3) := by decide +kernel
theorem dX4_counted_25 : decode cX4_counted 25 = .ok (.aload_n 0, 1) := by decide +kernel
theorem dX4_counted_26 : decode cX4_counted 26 = .ok (.dup, 1) := by decide +kernel
theorem dX4_counted_27 : decode cX4_counted 27 = .ok (.getfield 169, 3) := by decide +kernel
theorem dX4_counted_30 : decode cX4_counted 30 = .ok (.iconst 1, 1) := by decide +kernel
theorem dX4_counted_31 : decode cX4_counted 31 = .ok (.iadd, 1) := by decide +kernel
theorem dX4_counted_32 : decode cX4_counted 32 = .ok (.putfield 169, 3) := by decide +kernel
theorem dX4_counted_35 : decode cX4_counted 35 = .ok (.goto 19, 3) := by decide +kernel
theorem dX4_counted_38 : decode cX4_counted 38 = .ok (.iload_n 1, 1) := by decide +kernel
theorem dX4_counted_39 : decode cX4_counted 39 = .ok (.bipush (-4), 2) := by decide +kernel
theorem dX4_counted_41 : decode cX4_counted 41 = .ok (.if_icmp .ne 13, 3) := by decide +kernel
theorem dX4_counted_44 : decode cX4_counted 44 = .ok (.aload_n 0, 1) := by decide +kernel
theorem dX4_counted_45 : decode cX4_counted 45 = .ok (.dup, 1) := by decide +kernel
theorem dX4_counted_46 : decode cX4_counted 46 = .ok (.getfield 172, 3) := by decide +kernel
theorem dX4_counted_49 : decode cX4_counted 49 = .ok (.iconst 1, 1) := by decide +kernel
theorem dX4_counted_50 : decode cX4_counted 50 = .ok (.iadd, 1) := by decide +kernel
theorem dX4_counted_51 : decode cX4_counted 51 = .ok (.putfield 172, 3) := by decide +kernel
theorem dX4_counted_54 : decode cX4_counted 54 = .ok (.iload_n 1, 1) := by decide +kernel
theorem dX4_counted_55 : decode cX4_counted 55 = .ok (.ireturn, 1) := by decide +kernel
theorem dX4_perform_0 : decode cX4_perform 0 = .ok (.iload_n 1, 1) := by decide +kernel
theorem dX4_perform_1 : decode cX4_perform 1 = .ok (.tableswitch 183 99 119 #[138, 128, 183, 183, 183, 183, 99, 183, 183, 183, 183, 183, 183, 183, 183, 174, 109, 146, 118, 156, 164], 99) := by decide +kernel
theorem dX4_perform_100 : decode cX4_perform 100 = .ok (.aload_n 0, 1) := by decide +kernel
theorem dX4_perform_101 : decode cX4_perform 101 = .ok (.getfield 10, 3) := by decide +kernel
theorem dX4_perform_104 : decode cX4_perform 104 = .ok (.iload_n 2, 1) := by decide +kernel
theorem dX4_perform_105 : decode cX4_perform 105 = .ok (.iload_n 3, 1) := by decide +kernel
theorem dX4_perform_106 : decode cX4_perform 106 = .ok (.invokevirtual 43, 3) := by decide +kernel
theorem dX4_perform_109 : decode cX4_perform 109 = .ok (.ireturn, 1) := by decide +kernel
theorem dX4_perform_110 : decode cX4_perform 110 = .ok (.aload_n 0, 1) := by decide +kernel
theorem dX4_perform_111 : decode cX4_perform 111 = .ok (.getfield 10, 3) := by decide +kernel
theorem dX4_perform_114 : decode cX4_perform 114 = .ok (.iload_n 2, 1) := by decide +kernel
theorem dX4_perform_115 : decode cX4_perform 115 = .ok (.invokevirtual 54, 3) := by decide +kernel
theorem dX4_perform_118 : decode cX4_perform 118 = .ok (.ireturn, 1) := by decide +kernel
theorem dX4_perform_119 : decode cX4_perform 119 = .ok (.aload_n 0, 1) := by decide +kernel
theorem dX4_perform_120 : decode cX4_perform 120 = .ok (.getfield 10, 3) := by decide +kernel
theorem dX4_perform_123 : decode cX4_perform 123 = .ok (.iload_n 2, 1) := by decide +kernel
theorem dX4_perform_124 : decode cX4_perform 124 = .ok (.iconst 1, 1) := by decide +kernel
theorem dX4_perform_125 : decode cX4_perform 125 = .ok (.invokevirtual 71, 3) := by decide +kernel
theorem dX4_perform_128 : decode cX4_perform 128 = .ok (.ireturn, 1) := by decide +kernel
theorem dX4_perform_129 : decode cX4_perform 129 = .ok (.aload_n 0, 1) := by decide +kernel
theorem dX4_perform_130 : decode cX4_perform 130 = .ok (.getfield 10, 3) := by decide +kernel
theorem dX4_perform_133 : decode cX4_perform 133 = .ok (.iload_n 2, 1) := by decide +kernel
theorem dX4_perform_134 : decode cX4_perform 134 = .ok (.iconst (-1), 1) := by decide +kernel
theorem dX4_perform_135 : decode cX4_perform 135 = .ok (.invokevirtual 71, 3) := by decide +kernel
theorem dX4_perform_138 : decode cX4_perform 138 = .ok (.ireturn, 1) := by decide +kernel
theorem dX4_perform_139 : decode cX4_perform 139 = .ok (.aload_n 0, 1) := by decide +kernel
theorem dX4_perform_140 : decode cX4_perform 140 = .ok (.getfield 10, 3) := by decide +kernel
theorem dX4_perform_143 : decode cX4_perform 143 = .ok (.invokevirtual 63, 3) := by decide +kernel
theorem dX4_perform_146 : decode cX4_perform 146 = .ok (.ireturn, 1) := by decide +kernel
theorem dX4_perform_147 : decode cX4_perform 147 = .ok (.aload_n 0, 1) := by decide +kernel
theorem dX4_perform_148 : decode cX4_perform 148 = .ok (.getfield 10, 3) := by decide +kernel
theorem dX4_perform_151 : decode cX4_perform 151 = .ok (.iload_n 2, 1) := by decide +kernel
theorem dX4_perform_152 : decode cX4_perform 152 = .ok (.iload_n 3, 1) := by decide +kernel
theorem dX4_perform_153 : decode cX4_perform 153 = .ok (.invokevirtual 74, 3) := by decide +kernel
theorem dX4_perform_156 : decode cX4_perform 156 = .ok (.ireturn, 1) := by decide +kernel
theorem dX4_perform_157 : decode cX4_perform 157 = .ok (.aload_n 0, 1) := by decide +kernel
theorem dX4_perform_158 : decode cX4_perform 158 = .ok (.getfield 10, 3) := by decide +kernel
theorem dX4_perform_161 : decode cX4_perform 161 = .ok (.invokevirtual 77, 3) := by decide +kernel
theorem dX4_perform_164 : decode cX4_perform 164 = .ok (.ireturn, 1) := by decide +kernel
theorem dX4_perform_165 : decode cX4_perform 165 = .ok (.aload_n 0, 1) := by decide +kernel
theorem dX4_perform_166 : decode cX4_perform 166 = .ok (.getfield 10, 3) := by decide +kernel
theorem dX4_perform_169 : decode cX4_perform 169 = .ok (.iload_n 2, 1) := by decide +kernel
theorem dX4_perform_170 : decode cX4_perform 170 = .ok (.iload_n 3, 1) := by decide +kernel
theorem dX4_perform_171 : decode cX4_perform 171 = .ok (.invokevirtual 60, 3) := by decide +kernel
theorem dX4_perform_174 : decode cX4_perform 174 = .ok (.ireturn, 1) := by decide +kernel
theorem dX4_perform_175 : decode cX4_perform 175 = .ok (.aload_n 0, 1) := by decide +kernel
theorem dX4_perform_176 : decode cX4_perform 176 = .ok (.getfield 10, 3) := by decide +kernel
theorem dX4_perform_179 : decode cX4_perform 179 = .ok (.iload_n 2, 1) := by decide +kernel
theorem dX4_perform_180 : decode cX4_perform 180 = .ok (.invokevirtual 57, 3) := by decide +kernel
theorem dX4_perform_183 : decode cX4_perform 183 = .ok (.ireturn, 1) := by decide +kernel
theorem dX4_perform_184 : decode cX4_perform 184 = .ok (.bipush (-2), 2) := by decide +kernel
theorem dX4_perform_186 : decode cX4_perform 186 = .ok (.ireturn, 1) := by decide +kernel
theorem dX4_within_0 : decode cX4_within 0 = .ok (.lload_n 2, 1) := by decide +kernel
theorem dX4_within_1 : decode cX4_within 1 = .ok (.lload_n 0, 1) := by decide +kernel
theorem dX4_within_2 : decode cX4_within 2 = .ok (.lcmp, 1) := by decide +kernel
theorem dX4_within_3 : decode cX4_within 3 = .ok (.ifCond .gt 14, 3) := by decide +kernel
theorem dX4_within_6 : decode cX4_within 6 = .ok (.lload_n 0, 1) := by decide +kernel
theorem dX4_within_7 : decode cX4_within 7 = .ok (.lload 4, 2) := by decide +kernel
theorem dX4_within_9 : decode cX4_within 9 = .ok (.lcmp, 1) := by decide +kernel
theorem dX4_within_10 : decode cX4_within 10 = .ok (.ifCond .gt 7, 3) := by decide +kernel
theorem dX4_within_13 : decode cX4_within 13 = .ok (.iconst 1, 1) := by decide +kernel
theorem dX4_within_14 : decode cX4_within 14 = .ok (.goto 4, 3) := by decide +kernel
theorem dX4_within_17 : decode cX4_within 17 = .ok (.iconst 0, 1) := by decide +kernel
theorem dX4_within_18 : decode cX4_within 18 = .ok (.ireturn, 1) := by decide +kernel
theorem dX4_number_0 : decode cX4_number 0 = .ok (.lconst 0, 1) := by decide +kernel
theorem dX4_number_1 : decode cX4_number 1 = .ok (.lstore_n 1, 1) := by decide +kernel
theorem dX4_number_2 : decode cX4_number 2 = .ok (.aload_n 0, 1) := by decide +kernel
theorem dX4_number_3 : decode cX4_number 3 = .ok (.arraylength, 1) := by decide +kernel
theorem dX4_number_4 : decode cX4_number 4 = .ok (.iconst 1, 1) := by decide +kernel
theorem dX4_number_5 : decode cX4_number 5 = .ok (.isub, 1) := by decide +kernel
theorem dX4_number_6 : decode cX4_number 6 = .ok (.istore_n 3, 1) := by decide +kernel
theorem dX4_number_7 : decode cX4_number 7 = .ok (.iload_n 3, 1) := by decide +kernel
theorem dX4_number_8 : decode cX4_number 8 = .ok (.ifCond .lt 20, 3) := by decide +kernel
theorem dX4_number_11 : decode cX4_number 11 = .ok (.lload_n 1, 1) := by decide +kernel
theorem dX4_number_12 : decode cX4_number 12 = .ok (.ldc2_w 208, 3) := by decide +kernel
theorem dX4_number_15 : decode cX4_number 15 = .ok (.lmul, 1) := by decide +kernel
theorem dX4_number_16 : decode cX4_number 16 = .ok (.aload_n 0, 1) := by decide +kernel
theorem dX4_number_17 : decode cX4_number 17 = .ok (.iload_n 3, 1) := by decide +kernel
theorem dX4_number_18 : decode cX4_number 18 = .ok (.iaload, 1) := by decide +kernel
theorem dX4_number_19 : decode cX4_number 19 = .ok (.i2l, 1) := by decide +kernel
theorem dX4_number_20 : decode cX4_number 20 = .ok (.ladd, 1) := by decide +kernel
theorem dX4_number_21 : decode cX4_number 21 = .ok (.lstore_n 1, 1) := by decide +kernel
theorem dX4_number_22 : decode cX4_number 22 = .ok (.iinc 3 (-1), 3) := by decide +kernel
theorem dX4_number_25 : decode cX4_number 25 = .ok (.goto (-18), 3) := by decide +kernel
theorem dX4_number_28 : decode cX4_number 28 = .ok (.lload_n 1, 1) := by decide +kernel
theorem dX4_number_29 : decode cX4_number 29 = .ok (.lreturn, 1) := by decide +kernel
theorem dX4_putFigures_0 : decode cX4_putFigures 0 = .ok (.iconst 0, 1) := by decide +kernel
theorem dX4_putFigures_1 : decode cX4_putFigures 1 = .ok (.istore_n 3, 1) := by decide +kernel
theorem dX4_putFigures_2 : decode cX4_putFigures 2 = .ok (.lload_n 1, 1) := by decide +kernel
theorem dX4_putFigures_3 : decode cX4_putFigures 3 = .ok (.lstore 4, 2) := by decide +kernel
theorem dX4_putFigures_5 : decode cX4_putFigures 5 = .ok (.iconst 0, 1) := by decide +kernel
theorem dX4_putFigures_6 : decode cX4_putFigures 6 = .ok (.istore 6, 2) := by decide +kernel
theorem dX4_putFigures_8 : decode cX4_putFigures 8 = .ok (.iload 6, 2) := by decide +kernel
theorem dX4_putFigures_10 : decode cX4_putFigures 10 = .ok (.aload_n 0, 1) := by decide +kernel
theorem dX4_putFigures_11 : decode cX4_putFigures 11 = .ok (.arraylength, 1) := by decide +kernel
theorem dX4_putFigures_12 : decode cX4_putFigures 12 = .ok (.if_icmp .ge 44, 3) := by decide +kernel
theorem dX4_putFigures_15 : decode cX4_putFigures 15 = .ok (.lload 4, 2) := by decide +kernel
theorem dX4_putFigures_17 : decode cX4_putFigures 17 = .ok (.ldc2_w 208, 3) := by decide +kernel
theorem dX4_putFigures_20 : decode cX4_putFigures 20 = .ok (.lrem, 1) := by decide +kernel
theorem dX4_putFigures_21 : decode cX4_putFigures 21 = .ok (.l2i, 1) := by decide +kernel
theorem dX4_putFigures_22 : decode cX4_putFigures 22 = .ok (.istore 7, 2) := by decide +kernel
theorem dX4_putFigures_24 : decode cX4_putFigures 24 = .ok (.lload 4, 2) := by decide +kernel
theorem dX4_putFigures_26 : decode cX4_putFigures 26 = .ok (.ldc2_w 208, 3) := by decide +kernel
theorem dX4_putFigures_29 : decode cX4_putFigures 29 = .ok (.ldiv, 1) := by decide +kernel
theorem dX4_putFigures_30 : decode cX4_putFigures 30 = .ok (.lstore 4, 2) := by decide +kernel
theorem dX4_putFigures_32 : decode cX4_putFigures 32 = .ok (.aload_n 0, 1) := by decide +kernel
theorem dX4_putFigures_33 : decode cX4_putFigures 33 = .ok (.iload 6, 2) := by decide +kernel
theorem dX4_putFigures_35 : decode cX4_putFigures 35 = .ok (.iaload, 1) := by decide +kernel
theorem dX4_putFigures_36 : decode cX4_putFigures 36 = .ok (.iload 7, 2) := by decide +kernel
theorem dX4_putFigures_38 : decode cX4_putFigures 38 = .ok (.if_icmp .eq 6, 3) := by decide +kernel
theorem dX4_putFigures_41 : decode cX4_putFigures 41 = .ok (.iinc 3 1, 3) := by decide +kernel
theorem dX4_putFigures_44 : decode cX4_putFigures 44 = .ok (.aload_n 0, 1) := by decide +kernel
theorem dX4_putFigures_45 : decode cX4_putFigures 45 = .ok (.iload 6, 2) := by decide +kernel
theorem dX4_putFigures_47 : decode cX4_putFigures 47 = .ok (.iload 7, 2) := by decide +kernel
theorem dX4_putFigures_49 : decode cX4_putFigures 49 = .ok (.iastore, 1) := by decide +kernel
theorem dX4_putFigures_50 : decode cX4_putFigures 50 = .ok (.iinc 6 1, 3) := by decide +kernel
theorem dX4_putFigures_53 : decode cX4_putFigures 53 = .ok (.goto (-45), 3) := by decide +kernel
theorem dX4_putFigures_56 : decode cX4_putFigures 56 = .ok (.iload_n 3, 1) := by decide +kernel
theorem dX4_putFigures_57 : decode cX4_putFigures 57 = .ok (.ireturn, 1) := by decide +kernel
theorem dX4_canMultiply_0 : decode cX4_canMultiply 0 = .ok (.iload_n 0, 1) := by decide +kernel
theorem dX4_canMultiply_1 : decode cX4_canMultiply 1 = .ok (.i2l, 1) := by decide +kernel
theorem dX4_canMultiply_2 : decode cX4_canMultiply 2 = .ok (.lconst 0, 1) := by decide +kernel
theorem dX4_canMultiply_3 : decode cX4_canMultiply 3 = .ok (.ldc2_w 210, 3) := by decide +kernel
theorem dX4_canMultiply_6 : decode cX4_canMultiply 6 = .ok (.invokestatic 91, 3) := by decide +kernel
theorem dX4_canMultiply_9 : decode cX4_canMultiply 9 = .ok (.ifCond .eq 17, 3) := by decide +kernel
theorem dX4_canMultiply_12 : decode cX4_canMultiply 12 = .ok (.iload_n 1, 1) := by decide +kernel
theorem dX4_canMultiply_13 : decode cX4_canMultiply 13 = .ok (.i2l, 1) := by decide +kernel
theorem dX4_canMultiply_14 : decode cX4_canMultiply 14 = .ok (.lconst 0, 1) := by decide +kernel
theorem dX4_canMultiply_15 : decode cX4_canMultiply 15 = .ok (.lconst 1, 1) := by decide +kernel
theorem dX4_canMultiply_16 : decode cX4_canMultiply 16 = .ok (.invokestatic 91, 3) := by decide +kernel
theorem dX4_canMultiply_19 : decode cX4_canMultiply 19 = .ok (.ifCond .eq 7, 3) := by decide +kernel
theorem dX4_canMultiply_22 : decode cX4_canMultiply 22 = .ok (.iconst 1, 1) := by decide +kernel
theorem dX4_canMultiply_23 : decode cX4_canMultiply 23 = .ok (.goto 4, 3) := by decide +kernel
theorem dX4_canMultiply_26 : decode cX4_canMultiply 26 = .ok (.iconst 0, 1) := by decide +kernel
theorem dX4_canMultiply_27 : decode cX4_canMultiply 27 = .ok (.ireturn, 1) := by decide +kernel
theorem dX4_figuresToMultiply_0 : decode cX4_figuresToMultiply 0 = .ok (.iload_n 0, 1) := by decide +kernel
theorem dX4_figuresToMultiply_1 : decode cX4_figuresToMultiply 1 = .ok (.iconst 1, 1) := by decide +kernel
theorem dX4_figuresToMultiply_2 : decode cX4_figuresToMultiply 2 = .ok (.if_icmp .ne 8, 3) := by decide +kernel
theorem dX4_figuresToMultiply_5 : decode cX4_figuresToMultiply 5 = .ok (.bipush 7, 2) := by decide +kernel
theorem dX4_figuresToMultiply_7 : decode cX4_figuresToMultiply 7 = .ok (.goto 5, 3) := by decide +kernel
theorem dX4_figuresToMultiply_10 : decode cX4_figuresToMultiply 10 = .ok (.bipush 6, 2) := by decide +kernel
theorem dX4_figuresToMultiply_12 : decode cX4_figuresToMultiply 12 = .ok (.ireturn, 1) := by decide +kernel
theorem dX4_turnsForFigure_0 : decode cX4_turnsForFigure 0 = .ok (.iload_n 0, 1) := by decide +kernel
theorem dX4_turnsForFigure_1 : decode cX4_turnsForFigure 1 = .ok (.bipush 10, 2) := by decide +kernel
theorem dX4_turnsForFigure_3 : decode cX4_turnsForFigure 3 = .ok (.irem, 1) := by decide +kernel
theorem dX4_turnsForFigure_4 : decode cX4_turnsForFigure 4 = .ok (.istore_n 2, 1) := by decide +kernel
theorem dX4_turnsForFigure_5 : decode cX4_turnsForFigure 5 = .ok (.iload_n 1, 1) := by decide +kernel
theorem dX4_turnsForFigure_6 : decode cX4_turnsForFigure 6 = .ok (.iconst 1, 1) := by decide +kernel
theorem dX4_turnsForFigure_7 : decode cX4_turnsForFigure 7 = .ok (.if_icmp .ne 15, 3) := by decide +kernel
theorem dX4_turnsForFigure_10 : decode cX4_turnsForFigure 10 = .ok (.iload_n 2, 1) := by decide +kernel
theorem dX4_turnsForFigure_11 : decode cX4_turnsForFigure 11 = .ok (.iconst 5, 1) := by decide +kernel
theorem dX4_turnsForFigure_12 : decode cX4_turnsForFigure 12 = .ok (.if_icmp .le 10, 3) := by decide +kernel
theorem dX4_turnsForFigure_15 : decode cX4_turnsForFigure 15 = .ok (.iload_n 2, 1) := by decide +kernel
theorem dX4_turnsForFigure_16 : decode cX4_turnsForFigure 16 = .ok (.bipush 10, 2) := by decide +kernel
theorem dX4_turnsForFigure_18 : decode cX4_turnsForFigure 18 = .ok (.isub, 1) := by decide +kernel
theorem dX4_turnsForFigure_19 : decode cX4_turnsForFigure 19 = .ok (.goto 4, 3) := by decide +kernel
theorem dX4_turnsForFigure_22 : decode cX4_turnsForFigure 22 = .ok (.iload_n 2, 1) := by decide +kernel
theorem dX4_turnsForFigure_23 : decode cX4_turnsForFigure 23 = .ok (.ireturn, 1) := by decide +kernel
theorem dX4_leftBehindFigure_0 : decode cX4_leftBehindFigure 0 = .ok (.iload_n 0, 1) := by decide +kernel
theorem dX4_leftBehindFigure_1 : decode cX4_leftBehindFigure 1 = .ok (.iload_n 1, 1) := by decide +kernel
theorem dX4_leftBehindFigure_2 : decode cX4_leftBehindFigure 2 = .ok (.isub, 1) := by decide +kernel
theorem dX4_leftBehindFigure_3 : decode cX4_leftBehindFigure 3 = .ok (.bipush 10, 2) := by decide +kernel
theorem dX4_leftBehindFigure_5 : decode cX4_leftBehindFigure 5 = .ok (.idiv, 1) := by decide +kernel
theorem dX4_leftBehindFigure_6 : decode cX4_leftBehindFigure 6 = .ok (.ireturn, 1) := by decide +kernel
theorem dX4_turnsToMultiply_0 : decode cX4_turnsToMultiply 0 = .ok (.iload_n 0, 1) := by decide +kernel
theorem dX4_turnsToMultiply_1 : decode cX4_turnsToMultiply 1 = .ok (.iload_n 1, 1) := by decide +kernel
theorem dX4_turnsToMultiply_2 : decode cX4_turnsToMultiply 2 = .ok (.invokestatic 212, 3) := by decide +kernel
theorem dX4_turnsToMultiply_5 : decode cX4_turnsToMultiply 5 = .ok (.ifCond .ne 6, 3) := by decide +kernel
theorem dX4_turnsToMultiply_8 : decode cX4_turnsToMultiply 8 = .ok (.bipush (-2), 2) := by decide +kernel
theorem dX4_turnsToMultiply_10 : decode cX4_turnsToMultiply 10 = .ok (.ireturn, 1) := by decide +kernel
theorem dX4_turnsToMultiply_11 : decode cX4_turnsToMultiply 11 = .ok (.iconst 0, 1) := by decide +kernel
theorem dX4_turnsToMultiply_12 : decode cX4_turnsToMultiply 12 = .ok (.istore_n 2, 1) := by decide +kernel
theorem dX4_turnsToMultiply_13 : decode cX4_turnsToMultiply 13 = .ok (.iload_n 0, 1) := by decide +kernel
theorem dX4_turnsToMultiply_14 : decode cX4_turnsToMultiply 14 = .ok (.istore_n 3, 1) := by decide +kernel
theorem dX4_turnsToMultiply_15 : decode cX4_turnsToMultiply 15 = .ok (.iconst 0, 1) := by decide +kernel
theorem dX4_turnsToMultiply_16 : decode cX4_turnsToMultiply 16 = .ok (.istore 4, 2) := by decide +kernel
theorem dX4_turnsToMultiply_18 : decode cX4_turnsToMultiply 18 = .ok (.iload 4, 2) := by decide +kernel
theorem dX4_turnsToMultiply_20 : decode cX4_turnsToMultiply 20 = .ok (.iload_n 1, 1) := by decide +kernel
theorem dX4_turnsToMultiply_21 : decode cX4_turnsToMultiply 21 = .ok (.invokestatic 216, 3) := by decide +kernel
theorem dX4_turnsToMultiply_24 : decode cX4_turnsToMultiply 24 = .ok (.if_icmp .ge 31, 3) := by decide +kernel
theorem dX4_turnsToMultiply_27 : decode cX4_turnsToMultiply 27 = .ok (.iload_n 3, 1) := by decide +kernel
theorem dX4_turnsToMultiply_28 : decode cX4_turnsToMultiply 28 = .ok (.iload_n 1, 1) := by decide +kernel
theorem dX4_turnsToMultiply_29 : decode cX4_turnsToMultiply 29 = .ok (.invokestatic 219, 3) := by decide +kernel
theorem dX4_turnsToMultiply_32 : decode cX4_turnsToMultiply 32 = .ok (.istore 5, 2) := by decide +kernel
theorem dX4_turnsToMultiply_34 : decode cX4_turnsToMultiply 34 = .ok (.iload_n 3, 1) := by decide +kernel
theorem dX4_turnsToMultiply_35 : decode cX4_turnsToMultiply 35 = .ok (.iload 5, 2) := by decide +kernel
theorem dX4_turnsToMultiply_37 : decode cX4_turnsToMultiply 37 = .ok (.invokestatic 222, 3) := by decide +kernel
theorem dX4_turnsToMultiply_40 : decode cX4_turnsToMultiply 40 = .ok (.istore_n 3, 1) := by decide +kernel
theorem dX4_turnsToMultiply_41 : decode cX4_turnsToMultiply 41 = .ok (.iload_n 2, 1) := by decide +kernel
theorem dX4_turnsToMultiply_42 : decode cX4_turnsToMultiply 42 = .ok (.iload 5, 2) := by decide +kernel
theorem dX4_turnsToMultiply_44 : decode cX4_turnsToMultiply 44 = .ok (.invokestatic 225, 3) := by decide +kernel
theorem dX4_turnsToMultiply_47 : decode cX4_turnsToMultiply 47 = .ok (.iadd, 1) := by decide +kernel
theorem dX4_turnsToMultiply_48 : decode cX4_turnsToMultiply 48 = .ok (.istore_n 2, 1) := by decide +kernel
theorem dX4_turnsToMultiply_49 : decode cX4_turnsToMultiply 49 = .ok (.iinc 4 1, 3) := by decide +kernel
theorem dX4_turnsToMultiply_52 : decode cX4_turnsToMultiply 52 = .ok (.goto (-34), 3) := by decide +kernel
theorem dX4_turnsToMultiply_55 : decode cX4_turnsToMultiply 55 = .ok (.iload_n 2, 1) := by decide +kernel
theorem dX4_turnsToMultiply_56 : decode cX4_turnsToMultiply 56 = .ok (.ireturn, 1) := by decide +kernel
theorem dJ6_bitCount_0f7a4_0 : decode cJ6_bitCount_0f7a4 0 = .ok (.iload_n 0, 1) := by decide +kernel
theorem dJ6_bitCount_0f7a4_1 : decode cJ6_bitCount_0f7a4 1 = .ok (.iload_n 0, 1) := by decide +kernel
theorem dJ6_bitCount_0f7a4_2 : decode cJ6_bitCount_0f7a4 2 = .ok (.iconst 1, 1) := by decide +kernel
theorem dJ6_bitCount_0f7a4_3 : decode cJ6_bitCount_0f7a4 3 = .ok (.iushr, 1) := by decide +kernel
theorem dJ6_bitCount_0f7a4_4 : decode cJ6_bitCount_0f7a4 4 = .ok (.ldc_w 265, 3) := by decide +kernel
theorem dJ6_bitCount_0f7a4_7 : decode cJ6_bitCount_0f7a4 7 = .ok (.iand, 1) := by decide +kernel
theorem dJ6_bitCount_0f7a4_8 : decode cJ6_bitCount_0f7a4 8 = .ok (.isub, 1) := by decide +kernel
theorem dJ6_bitCount_0f7a4_9 : decode cJ6_bitCount_0f7a4 9 = .ok (.istore_n 0, 1) := by decide +kernel
theorem dJ6_bitCount_0f7a4_10 : decode cJ6_bitCount_0f7a4 10 = .ok (.iload_n 0, 1) := by decide +kernel
theorem dJ6_bitCount_0f7a4_11 : decode cJ6_bitCount_0f7a4 11 = .ok (.ldc_w 266, 3) := by decide +kernel
theorem dJ6_bitCount_0f7a4_14 : decode cJ6_bitCount_0f7a4 14 = .ok (.iand, 1) := by decide +kernel
theorem dJ6_bitCount_0f7a4_15 : decode cJ6_bitCount_0f7a4 15 = .ok (.iload_n 0, 1) := by decide +kernel
theorem dJ6_bitCount_0f7a4_16 : decode cJ6_bitCount_0f7a4 16 = .ok (.iconst 2, 1) := by decide +kernel
theorem dJ6_bitCount_0f7a4_17 : decode cJ6_bitCount_0f7a4 17 = .ok (.iushr, 1) := by decide +kernel
theorem dJ6_bitCount_0f7a4_18 : decode cJ6_bitCount_0f7a4 18 = .ok (.ldc_w 266, 3) := by decide +kernel
theorem dJ6_bitCount_0f7a4_21 : decode cJ6_bitCount_0f7a4 21 = .ok (.iand, 1) := by decide +kernel
theorem dJ6_bitCount_0f7a4_22 : decode cJ6_bitCount_0f7a4 22 = .ok (.iadd, 1) := by decide +kernel
theorem dJ6_bitCount_0f7a4_23 : decode cJ6_bitCount_0f7a4 23 = .ok (.istore_n 0, 1) := by decide +kernel
theorem dJ6_bitCount_0f7a4_24 : decode cJ6_bitCount_0f7a4 24 = .ok (.iload_n 0, 1) := by decide +kernel
theorem dJ6_bitCount_0f7a4_25 : decode cJ6_bitCount_0f7a4 25 = .ok (.iload_n 0, 1) := by decide +kernel
theorem dJ6_bitCount_0f7a4_26 : decode cJ6_bitCount_0f7a4 26 = .ok (.iconst 4, 1) := by decide +kernel
theorem dJ6_bitCount_0f7a4_27 : decode cJ6_bitCount_0f7a4 27 = .ok (.iushr, 1) := by decide +kernel
theorem dJ6_bitCount_0f7a4_28 : decode cJ6_bitCount_0f7a4 28 = .ok (.iadd, 1) := by decide +kernel
theorem dJ6_bitCount_0f7a4_29 : decode cJ6_bitCount_0f7a4 29 = .ok (.ldc_w 267, 3) := by decide +kernel
theorem dJ6_bitCount_0f7a4_32 : decode cJ6_bitCount_0f7a4 32 = .ok (.iand, 1) := by decide +kernel
theorem dJ6_bitCount_0f7a4_33 : decode cJ6_bitCount_0f7a4 33 = .ok (.istore_n 0, 1) := by decide +kernel
theorem dJ6_bitCount_0f7a4_34 : decode cJ6_bitCount_0f7a4 34 = .ok (.iload_n 0, 1) := by decide +kernel
theorem dJ6_bitCount_0f7a4_35 : decode cJ6_bitCount_0f7a4 35 = .ok (.iload_n 0, 1) := by decide +kernel
theorem dJ6_bitCount_0f7a4_36 : decode cJ6_bitCount_0f7a4 36 = .ok (.bipush 8, 2) := by decide +kernel
theorem dJ6_bitCount_0f7a4_38 : decode cJ6_bitCount_0f7a4 38 = .ok (.iushr, 1) := by decide +kernel
theorem dJ6_bitCount_0f7a4_39 : decode cJ6_bitCount_0f7a4 39 = .ok (.iadd, 1) := by decide +kernel
theorem dJ6_bitCount_0f7a4_40 : decode cJ6_bitCount_0f7a4 40 = .ok (.istore_n 0, 1) := by decide +kernel
theorem dJ6_bitCount_0f7a4_41 : decode cJ6_bitCount_0f7a4 41 = .ok (.iload_n 0, 1) := by decide +kernel
theorem dJ6_bitCount_0f7a4_42 : decode cJ6_bitCount_0f7a4 42 = .ok (.iload_n 0, 1) := by decide +kernel
theorem dJ6_bitCount_0f7a4_43 : decode cJ6_bitCount_0f7a4 43 = .ok (.bipush 16, 2) := by decide +kernel
theorem dJ6_bitCount_0f7a4_45 : decode cJ6_bitCount_0f7a4 45 = .ok (.iushr, 1) := by decide +kernel
theorem dJ6_bitCount_0f7a4_46 : decode cJ6_bitCount_0f7a4 46 = .ok (.iadd, 1) := by decide +kernel
theorem dJ6_bitCount_0f7a4_47 : decode cJ6_bitCount_0f7a4 47 = .ok (.istore_n 0, 1) := by decide +kernel
theorem dJ6_bitCount_0f7a4_48 : decode cJ6_bitCount_0f7a4 48 = .ok (.iload_n 0, 1) := by decide +kernel
theorem dJ6_bitCount_0f7a4_49 : decode cJ6_bitCount_0f7a4 49 = .ok (.bipush 63, 2) := by decide +kernel
theorem dJ6_bitCount_0f7a4_51 : decode cJ6_bitCount_0f7a4 51 = .ok (.iand, 1) := by decide +kernel
theorem dJ6_bitCount_0f7a4_52 : decode cJ6_bitCount_0f7a4 52 = .ok (.ireturn, 1) := by decide +kernel
theorem dJ9_abs_0f7a4_0 : decode cJ9_abs_0f7a4 0 = .ok (.iload_n 0, 1) := by decide +kernel
theorem dJ9_abs_0f7a4_1 : decode cJ9_abs_0f7a4 1 = .ok (.ifCond .ge 8, 3) := by decide +kernel
theorem dJ9_abs_0f7a4_4 : decode cJ9_abs_0f7a4 4 = .ok (.iload_n 0, 1) := by decide +kernel
theorem dJ9_abs_0f7a4_5 : decode cJ9_abs_0f7a4 5 = .ok (.ineg, 1) := by decide +kernel
theorem dJ9_abs_0f7a4_6 : decode cJ9_abs_0f7a4 6 = .ok (.goto 4, 3) := by decide +kernel
theorem dJ9_abs_0f7a4_9 : decode cJ9_abs_0f7a4 9 = .ok (.iload_n 0, 1) := by decide +kernel
theorem dJ9_abs_0f7a4_10 : decode cJ9_abs_0f7a4 10 = .ok (.ireturn, 1) := by decide +kernel
theorem dJ9_min_7cf53_0 : decode cJ9_min_7cf53 0 = .ok (.iload_n 0, 1) := by decide +kernel
theorem dJ9_min_7cf53_1 : decode cJ9_min_7cf53 1 = .ok (.iload_n 1, 1) := by decide +kernel
theorem dJ9_min_7cf53_2 : decode cJ9_min_7cf53 2 = .ok (.if_icmp .gt 7, 3) := by decide +kernel
theorem dJ9_min_7cf53_5 : decode cJ9_min_7cf53 5 = .ok (.iload_n 0, 1) := by decide +kernel
theorem dJ9_min_7cf53_6 : decode cJ9_min_7cf53 6 = .ok (.goto 4, 3) := by decide +kernel
theorem dJ9_min_7cf53_9 : decode cJ9_min_7cf53 9 = .ok (.iload_n 1, 1) := by decide +kernel
theorem dJ9_min_7cf53_10 : decode cJ9_min_7cf53 10 = .ok (.ireturn, 1) := by decide +kernel
theorem dJ7_fill_53178_0 : decode cJ7_fill_53178 0 = .ok (.iconst 0, 1) := by decide +kernel
theorem dJ7_fill_53178_1 : decode cJ7_fill_53178 1 = .ok (.istore_n 2, 1) := by decide +kernel
theorem dJ7_fill_53178_2 : decode cJ7_fill_53178 2 = .ok (.aload_n 0, 1) := by decide +kernel
theorem dJ7_fill_53178_3 : decode cJ7_fill_53178 3 = .ok (.arraylength, 1) := by decide +kernel
theorem dJ7_fill_53178_4 : decode cJ7_fill_53178 4 = .ok (.istore_n 3, 1) := by decide +kernel
theorem dJ7_fill_53178_5 : decode cJ7_fill_53178 5 = .ok (.iload_n 2, 1) := by decide +kernel
theorem dJ7_fill_53178_6 : decode cJ7_fill_53178 6 = .ok (.iload_n 3, 1) := by decide +kernel
theorem dJ7_fill_53178_7 : decode cJ7_fill_53178 7 = .ok (.if_icmp .ge 13, 3) := by decide +kernel
theorem dJ7_fill_53178_10 : decode cJ7_fill_53178 10 = .ok (.aload_n 0, 1) := by decide +kernel
theorem dJ7_fill_53178_11 : decode cJ7_fill_53178 11 = .ok (.iload_n 2, 1) := by decide +kernel
theorem dJ7_fill_53178_12 : decode cJ7_fill_53178 12 = .ok (.iload_n 1, 1) := by decide +kernel
theorem dJ7_fill_53178_13 : decode cJ7_fill_53178 13 = .ok (.iastore, 1) := by decide +kernel
theorem dJ7_fill_53178_14 : decode cJ7_fill_53178 14 = .ok (.iinc 2 1, 3) := by decide +kernel
theorem dJ7_fill_53178_17 : decode cJ7_fill_53178 17 = .ok (.goto (-12), 3) := by decide +kernel
theorem dJ7_fill_53178_20 : decode cJ7_fill_53178 20 = .ok (.return_, 1) := by decide +kernel
end
section
theorem dX5_init_0 : decode cX5_init 0 = .ok (.aload_n 0, 1) := by decide +kernel
theorem dX5_init_1 : decode cX5_init 1 = .ok (.invokespecial 1, 3) := by decide +kernel
theorem dX5_init_4 : decode cX5_init 4 = .ok (.aload_n 0, 1) := by decide +kernel
theorem dX5_init_5 : decode cX5_init 5 = .ok (.bipush 35, 2) := by decide +kernel
theorem dX5_init_7 : decode cX5_init 7 = .ok (.newarray .int, 2) := by decide +kernel
theorem dX5_init_9 : decode cX5_init 9 = .ok (.putfield 7, 3) := by decide +kernel
theorem dX5_init_12 : decode cX5_init 12 = .ok (.aload_n 0, 1) := by decide +kernel
theorem dX5_init_13 : decode cX5_init 13 = .ok (.bipush 35, 2) := by decide +kernel
theorem dX5_init_15 : decode cX5_init 15 = .ok (.newarray .int, 2) := by decide +kernel
theorem dX5_init_17 : decode cX5_init 17 = .ok (.putfield 13, 3) := by decide +kernel
theorem dX5_init_20 : decode cX5_init 20 = .ok (.aload_n 0, 1) := by decide +kernel
theorem dX5_init_21 : decode cX5_init 21 = .ok (.sipush 175, 3) := by decide +kernel
theorem dX5_init_24 : decode cX5_init 24 = .ok (.newarray .int, 2) := by decide +kernel
theorem dX5_init_26 : decode cX5_init 26 = .ok (.putfield 16, 3) := by decide +kernel
theorem dX5_init_29 : decode cX5_init 29 = .ok (.aload_n 0, 1) := by decide +kernel
theorem dX5_init_30 : decode cX5_init 30 = .ok (.iconst 3, 1) := by decide +kernel
theorem dX5_init_31 : decode cX5_init 31 = .ok (.newarray .int, 2) := by decide +kernel
theorem dX5_init_33 : decode cX5_init 33 = .ok (.putfield 19, 3) := by decide +kernel
theorem dX5_init_36 : decode cX5_init 36 = .ok (.aload_n 0, 1) := by decide +kernel
theorem dX5_init_37 : decode cX5_init 37 = .ok (.bipush 120, 2) := by decide +kernel
theorem dX5_init_39 : decode cX5_init 39 = .ok (.newarray .int, 2) := by decide +kernel
theorem dX5_init_41 : decode cX5_init 41 = .ok (.putfield 22, 3) := by decide +kernel
theorem dX5_init_44 : decode cX5_init 44 = .ok (.aload_n 0, 1) := by decide +kernel
theorem dX5_init_45 : decode cX5_init 45 = .ok (.bipush 6, 2) := by decide +kernel
theorem dX5_init_47 : decode cX5_init 47 = .ok (.newarray .int, 2) := by decide +kernel
theorem dX5_init_49 : decode cX5_init 49 = .ok (.putfield 25, 3) := by decide +kernel
theorem dX5_init_52 : decode cX5_init 52 = .ok (.aload_n 0, 1) := by decide +kernel
theorem dX5_init_53 : decode cX5_init 53 = .ok (.bipush 12, 2) := by decide +kernel
theorem dX5_init_55 : decode cX5_init 55 = .ok (.newarray .int, 2) := by decide +kernel
theorem dX5_init_57 : decode cX5_init 57 = .ok (.putfield 28, 3) := by decide +kernel
theorem dX5_init_60 : decode cX5_init 60 = .ok (.aload_n 0, 1) := by decide +kernel
theorem dX5_init_61 : decode cX5_init 61 = .ok (.bipush 7, 2) := by decide +kernel
theorem dX5_init_63 : decode cX5_init 63 = .ok (.newarray .int, 2) := by decide +kernel
theorem dX5_init_65 : decode cX5_init 65 = .ok (.putfield 31, 3) := by decide +kernel
theorem dX5_init_68 : decode cX5_init 68 = .ok (.aload_n 0, 1) := by decide +kernel
theorem dX5_init_69 : decode cX5_init 69 = .ok (.bipush 60, 2) := by decide +kernel
theorem dX5_init_71 : decode cX5_init 71 = .ok (.newarray .int, 2) := by decide +kernel
theorem dX5_init_73 : decode cX5_init 73 = .ok (.putfield 34, 3) := by decide +kernel
theorem dX5_init_76 : decode cX5_init 76 = .ok (.aload_n 0, 1) := by decide +kernel
theorem dX5_init_77 : decode cX5_init 77 = .ok (.bipush 120, 2) := by decide +kernel
theorem dX5_init_79 : decode cX5_init 79 = .ok (.newarray .int, 2) := by decide +kernel
theorem dX5_init_81 : decode cX5_init 81 = .ok (.putfield 37, 3) := by decide +kernel
theorem dX5_init_84 : decode cX5_init 84 = .ok (.aload_n 0, 1) := by decide +kernel
theorem dX5_init_85 : decode cX5_init 85 = .ok (.getfield 7, 3) := by decide +kernel
theorem dX5_init_88 : decode cX5_init 88 = .ok (.bipush 32, 2) := by decide +kernel
theorem dX5_init_90 : decode cX5_init 90 = .ok (.bipush 12, 2) := by decide +kernel
theorem dX5_init_92 : decode cX5_init 92 = .ok (.iastore, 1) := by decide +kernel
theorem dX5_init_93 : decode cX5_init 93 = .ok (.return_, 1) := by decide +kernel
theorem dX5_in_0 : decode cX5_in 0 = .ok (.lload_n 0, 1) := by decide +kernel
theorem dX5_in_1 : decode cX5_in 1 = .ok (.lload_n 2, 1) := by decide +kernel
theorem dX5_in_2 : decode cX5_in 2 = .ok (.lcmp, 1) := by decide +kernel
theorem dX5_in_3 : decode cX5_in 3 = .ok (.ifCond .lt 14, 3) := by decide +kernel
theorem dX5_in_6 : decode cX5_in 6 = .ok (.lload_n 0, 1) := by decide +kernel
theorem dX5_in_7 : decode cX5_in 7 = .ok (.lload 4, 2) := by decide +kernel
theorem dX5_in_9 : decode cX5_in 9 = .ok (.lcmp, 1) := by decide +kernel
theorem dX5_in_10 : decode cX5_in 10 = .ok (.ifCond .gt 7, 3) := by decide +kernel
theorem dX5_in_13 : decode cX5_in 13 = .ok (.iconst 1, 1) := by decide +kernel
theorem dX5_in_14 : decode cX5_in 14 = .ok (.goto 4, 3) := by decide +kernel
theorem dX5_in_17 : decode cX5_in 17 = .ok (.iconst 0, 1) := by decide +kernel
theorem dX5_in_18 : decode cX5_in 18 = .ok (.ireturn, 1) := by decide +kernel
theorem dX5_refuses_0 : decode cX5_refuses 0 = .ok (.aload_n 0, 1) := by decide +kernel
theorem dX5_refuses_1 : decode cX5_refuses 1 = .ok (.getfield 19, 3) := by decide +kernel
theorem dX5_refuses_4 : decode cX5_refuses 4 = .ok (.bipush (-2), 2) := by decide +kernel
theorem dX5_refuses_6 : decode cX5_refuses 6 = .ok (.iload_n 1, 1) := by decide +kernel
theorem dX5_refuses_7 : decode cX5_refuses 7 = .ok (.isub, 1) := by decide +kernel
theorem dX5_refuses_8 : decode cX5_refuses 8 = .ok (.dup2, 1) := by decide +kernel
theorem dX5_refuses_9 : decode cX5_refuses 9 = .ok (.iaload, 1) := by decide +kernel
theorem dX5_refuses_10 : decode cX5_refuses 10 = .ok (.iconst 1, 1) := by decide +kernel
theorem dX5_refuses_11 : decode cX5_refuses 11 = .ok (.iadd, 1) := by decide +kernel
theorem dX5_refuses_12 : decode cX5_refuses 12 = .ok (.iastore, 1) := by decide +kernel
theorem dX5_refuses_13 : decode cX5_refuses 13 = .ok (.iload_n 1, 1) := by decide +kernel
theorem dX5_refuses_14 : decode cX5_refuses 14 = .ok (.ireturn, 1) := by decide +kernel
theorem dX5_laysAside_0 : decode cX5_laysAside 0 = .ok (.iconst 0, 1) := by decide +kernel
theorem dX5_laysAside_1 : decode cX5_laysAside 1 = .ok (.istore_n 1, 1) := by decide +kernel
theorem dX5_laysAside_2 : decode cX5_laysAside 2 = .ok (.iload_n 1, 1) := by decide +kernel
theorem dX5_laysAside_3 : decode cX5_laysAside 3 = .ok (.bipush 35, 2) := by decide +kernel
theorem dX5_laysAside_5 : decode cX5_laysAside 5 = .ok (.if_icmp .ge 21, 3) := by decide +kernel
theorem dX5_laysAside_8 : decode cX5_laysAside 8 = .ok (.aload_n 0, 1) := by decide +kernel
theorem dX5_laysAside_9 : decode cX5_laysAside 9 = .ok (.getfield 13, 3) := by decide +kernel
theorem dX5_laysAside_12 : decode cX5_laysAside 12 = .ok (.iload_n 1, 1) := by decide +kernel
theorem dX5_laysAside_13 : decode cX5_laysAside 13 = .ok (.aload_n 0, 1) := by decide +kernel
theorem dX5_laysAside_14 : decode cX5_laysAside 14 = .ok (.getfield 7, 3) := by decide +kernel
theorem dX5_laysAside_17 : decode cX5_laysAside 17 = .ok (.iload_n 1, 1) := by decide +kernel
theorem dX5_laysAside_18 : decode cX5_laysAside 18 = .ok (.iaload, 1) := by decide +kernel
theorem dX5_laysAside_19 : decode cX5_laysAside 19 = .ok (.iastore, 1) := by decide +kernel
theorem dX5_laysAside_20 : decode cX5_laysAside 20 = .ok (.iinc 1 1, 3) := by decide +kernel
theorem dX5_laysAside_23 : decode cX5_laysAside 23 = .ok (.goto (-21), 3) := by decide +kernel
theorem dX5_laysAside_26 : decode cX5_laysAside 26 = .ok (.return_, 1) := by decide +kernel
theorem dX5_takesBack_0 : decode cX5_takesBack 0 = .ok (.iconst 0, 1) := by decide +kernel
theorem dX5_takesBack_1 : decode cX5_takesBack 1 = .ok (.istore_n 1, 1) := by decide +kernel
theorem dX5_takesBack_2 : decode cX5_takesBack 2 = .ok (.iload_n 1, 1) := by decide +kernel
theorem dX5_takesBack_3 : decode cX5_takesBack 3 = .ok (.bipush 35, 2) := by decide +kernel
theorem dX5_takesBack_5 : decode cX5_takesBack 5 = .ok (.if_icmp .ge 21, 3) := by decide +kernel
theorem dX5_takesBack_8 : decode cX5_takesBack 8 = .ok (.aload_n 0, 1) := by decide +kernel
theorem dX5_takesBack_9 : decode cX5_takesBack 9 = .ok (.getfield 7, 3) := by decide +kernel
theorem dX5_takesBack_12 : decode cX5_takesBack 12 = .ok (.iload_n 1, 1) := by decide +kernel
theorem dX5_takesBack_13 : decode cX5_takesBack 13 = .ok (.aload_n 0, 1) := by decide +kernel
theorem dX5_takesBack_14 : decode cX5_takesBack 14 = .ok (.getfield 13, 3) := by decide +kernel
theorem dX5_takesBack_17 : decode cX5_takesBack 17 = .ok (.iload_n 1, 1) := by decide +kernel
theorem dX5_takesBack_18 : decode cX5_takesBack 18 = .ok (.iaload, 1) := by decide +kernel
theorem dX5_takesBack_19 : decode cX5_takesBack 19 = .ok (.iastore, 1) := by decide +kernel
theorem dX5_takesBack_20 : decode cX5_takesBack 20 = .ok (.iinc 1 1, 3) := by decide +kernel
theorem dX5_takesBack_23 : decode cX5_takesBack 23 = .ok (.goto (-21), 3) := by decide +kernel
theorem dX5_takesBack_26 : decode cX5_takesBack 26 = .ok (.return_, 1) := by decide +kernel
theorem dX5_remembers_0 : decode cX5_remembers 0 = .ok (.aload_n 0, 1) := by decide +kernel
theorem dX5_remembers_1 : decode cX5_remembers 1 = .ok (.getfield 40, 3) := by decide +kernel
theorem dX5_remembers_4 : decode cX5_remembers 4 = .ok (.iconst 5, 1) := by decide +kernel
theorem dX5_remembers_5 : decode cX5_remembers 5 = .ok (.if_icmp .ne 43, 3) := by decide +kernel
theorem dX5_remembers_8 : decode cX5_remembers 8 = .ok (.iconst 0, 1) := by decide +kernel
theorem dX5_remembers_9 : decode cX5_remembers 9 = .ok (.istore_n 1, 1) := by decide +kernel
theorem dX5_remembers_10 : decode cX5_remembers 10 = .ok (.iload_n 1, 1) := by decide +kernel
theorem dX5_remembers_11 : decode cX5_remembers 11 = .ok (.sipush 140, 3) := by decide +kernel
theorem dX5_remembers_14 : decode cX5_remembers 14 = .ok (.if_icmp .ge 24, 3) := by decide +kernel
theorem dX5_remembers_17 : decode cX5_remembers 17 = .ok (.aload_n 0, 1) := by decide +kernel
theorem dX5_remembers_18 : decode cX5_remembers 18 = .ok (.getfield 16, 3) := by decide +kernel
theorem dX5_remembers_21 : decode cX5_remembers 21 = .ok (.iload_n 1, 1) := by decide +kernel
theorem dX5_remembers_22 : decode cX5_remembers 22 = .ok (.aload_n 0, 1) := by decide +kernel
theorem dX5_remembers_23 : decode cX5_remembers 23 = .ok (.getfield 16, 3) := by decide +kernel
theorem dX5_remembers_26 : decode cX5_remembers 26 = .ok (.iload_n 1, 1) := by decide +kernel
theorem dX5_remembers_27 : decode cX5_remembers 27 = .ok (.bipush 35, 2) := by decide +kernel
theorem dX5_remembers_29 : decode cX5_remembers 29 = .ok (.iadd, 1) := by decide +kernel
theorem dX5_remembers_30 : decode cX5_remembers 30 = .ok (.iaload, 1) := by decide +kernel
theorem dX5_remembers_31 : decode cX5_remembers 31 = .ok (.iastore, 1) := by decide +kernel
theorem dX5_remembers_32 : decode cX5_remembers 32 = .ok (.iinc 1 1, 3) := by decide +kernel
theorem dX5_remembers_35 : decode cX5_remembers 35 = .ok (.goto (-25), 3) := by decide +kernel
theorem dX5_remembers_38 : decode cX5_remembers 38 = .ok (.aload_n 0, 1) := by decide +kernel
theorem dX5_remembers_39 : decode cX5_remembers 39 = .ok (.dup, 1) := by decide +kernel
theorem dX5_remembers_40 : decode cX5_remembers 40 = .ok (.getfield 40, 3) := by decide +kernel
theorem dX5_remembers_43 : decode cX5_remembers 43 = .ok (.iconst 1, 1) := by decide +kernel
theorem dX5_remembers_44 : decode cX5_remembers 44 = .ok (.isub, 1) := by decide +kernel
theorem dX5_remembers_45 : decode cX5_remembers 45 = .ok (.putfield 40, 3) := by decide +kernel
theorem dX5_remembers_48 : decode cX5_remembers 48 = .ok (.iconst 0, 1) := by decide +kernel
theorem dX5_remembers_49 : decode cX5_remembers 49 = .ok (.istore_n 1, 1) := by decide +kernel
theorem dX5_remembers_50 : decode cX5_remembers 50 = .ok (.iload_n 1, 1) := by decide +kernel
theorem dX5_remembers_51 : decode cX5_remembers 51 = .ok (.bipush 35, 2) := by decide +kernel
theorem dX5_remembers_53 : decode cX5_remembers 53 = .ok (.if_icmp .ge 29, 3) := by decide +kernel
theorem dX5_remembers_56 : decode cX5_remembers 56 = .ok (.aload_n 0, 1) := by decide +kernel
theorem dX5_remembers_57 : decode cX5_remembers 57 = .ok (.getfield 16, 3) := by decide +kernel
theorem dX5_remembers_60 : decode cX5_remembers 60 = .ok (.bipush 35, 2) := by decide +kernel
theorem dX5_remembers_62 : decode cX5_remembers 62 = .ok (.aload_n 0, 1) := by decide +kernel
theorem dX5_remembers_63 : decode cX5_remembers 63 = .ok (.getfield 40, 3) := by decide +kernel
theorem dX5_remembers_66 : decode cX5_remembers 66 = .ok (.imul, 1) := by decide +kernel
theorem dX5_remembers_67 : decode cX5_remembers 67 = .ok (.iload_n 1, 1) := by decide +kernel
theorem dX5_remembers_68 : decode cX5_remembers 68 = .ok (.iadd, 1) := by decide +kernel
theorem dX5_remembers_69 : decode cX5_remembers 69 = .ok (.aload_n 0, 1) := by decide +kernel
theorem dX5_remembers_70 : decode cX5_remembers 70 = .ok (.getfield 13, 3) := by decide +kernel
theorem dX5_remembers_73 : decode cX5_remembers 73 = .ok (.iload_n 1, 1) := by decide +kernel
theorem dX5_remembers_74 : decode cX5_remembers 74 = .ok (.iaload, 1) := by decide +kernel
theorem dX5_remembers_75 : decode cX5_remembers 75 = .ok (.iastore, 1) := by decide +kernel
theorem dX5_remembers_76 : decode cX5_remembers 76 = .ok (.iinc 1 1, 3) := by decide +kernel
theorem dX5_remembers_79 : decode cX5_remembers 79 = .ok (.goto (-29), 3) := by decide +kernel
theorem dX5_remembers_82 : decode cX5_remembers 82 = .ok (.aload_n 0, 1) := by decide +kernel
theorem dX5_remembers_83 : decode cX5_remembers 83 = .ok (.dup, 1) := by decide +kernel
theorem dX5_remembers_84 : decode cX5_remembers 84 = .ok (.getfield 40, 3) := by decide +kernel
theorem dX5_remembers_87 : decode cX5_remembers 87 = .ok (.iconst 1, 1) := by decide +kernel
theorem dX5_remembers_88 : decode cX5_remembers 88 = .ok (.iadd, 1) := by decide +kernel
theorem dX5_remembers_89 : decode cX5_remembers 89 = .ok (.putfield 40, 3) := by decide +kernel
theorem dX5_remembers_92 : decode cX5_remembers 92 = .ok (.return_, 1) := by decide +kernel
theorem dX5_back_0 : decode cX5_back 0 = .ok (.aload_n 0, 1) := by decide +kernel
theorem dX5_back_1 : decode cX5_back 1 = .ok (.getfield 40, 3) := by decide +kernel
theorem dX5_back_4 : decode cX5_back 4 = .ok (.ifCond .ne 10, 3) := by decide +kernel
theorem dX5_back_7 : decode cX5_back 7 = .ok (.aload_n 0, 1) := by decide +kernel
theorem dX5_back_8 : decode cX5_back 8 = .ok (.bipush (-3), 2) := by decide +kernel
theorem dX5_back_10 : decode cX5_back 10 = .ok (.invokevirtual 44, 3) := by decide +kernel
theorem dX5_back_13 : decode cX5_back 13 = .ok (.ireturn, 1) := by decide +kernel
theorem dX5_back_14 : decode cX5_back 14 = .ok (.aload_n 0, 1) := by decide +kernel
theorem dX5_back_15 : decode cX5_back 15 = .ok (.dup, 1) := by decide +kernel
theorem dX5_back_16 : decode cX5_back 16 = .ok (.getfield 40, 3) := by decide +kernel
theorem dX5_back_19 : decode cX5_back 19 = .ok (.iconst 1, 1) := by decide +kernel
theorem dX5_back_20 : decode cX5_back 20 = .ok (.isub, 1) := by decide +kernel
theorem dX5_back_21 : decode cX5_back 21 = .ok (.putfield 40, 3) := by decide +kernel
theorem dX5_back_24 : decode cX5_back 24 = .ok (.iconst 0, 1) := by decide +kernel
theorem dX5_back_25 : decode cX5_back 25 = .ok (.istore_n 1, 1) := by decide +kernel
theorem dX5_back_26 : decode cX5_back 26 = .ok (.iload_n 1, 1) := by decide +kernel
theorem dX5_back_27 : decode cX5_back 27 = .ok (.bipush 35, 2) := by decide +kernel
theorem dX5_back_29 : decode cX5_back 29 = .ok (.if_icmp .ge 29, 3) := by decide +kernel
theorem dX5_back_32 : decode cX5_back 32 = .ok (.aload_n 0, 1) := by decide +kernel
theorem dX5_back_33 : decode cX5_back 33 = .ok (.getfield 7, 3) := by decide +kernel
theorem dX5_back_36 : decode cX5_back 36 = .ok (.iload_n 1, 1) := by decide +kernel
theorem dX5_back_37 : decode cX5_back 37 = .ok (.aload_n 0, 1) := by decide +kernel
theorem dX5_back_38 : decode cX5_back 38 = .ok (.getfield 16, 3) := by decide +kernel
theorem dX5_back_41 : decode cX5_back 41 = .ok (.bipush 35, 2) := by decide +kernel
theorem dX5_back_43 : decode cX5_back 43 = .ok (.aload_n 0, 1) := by decide +kernel
theorem dX5_back_44 : decode cX5_back 44 = .ok (.getfield 40, 3) := by decide +kernel
theorem dX5_back_47 : decode cX5_back 47 = .ok (.imul, 1) := by decide +kernel
theorem dX5_back_48 : decode cX5_back 48 = .ok (.iload_n 1, 1) := by decide +kernel
theorem dX5_back_49 : decode cX5_back 49 = .ok (.iadd, 1) := by decide +kernel
theorem dX5_back_50 : decode cX5_back 50 = .ok (.iaload, 1) := by decide +kernel
theorem dX5_back_51 : decode cX5_back 51 = .ok (.iastore, 1) := by decide +kernel
theorem dX5_back_52 : decode cX5_back 52 = .ok (.iinc 1 1, 3) := by decide +kernel
theorem dX5_back_55 : decode cX5_back 55 = .ok (.goto (-29), 3) := by decide +kernel
theorem dX5_back_58 : decode cX5_back 58 = .ok (.aload_n 0, 1) := by decide +kernel
theorem dX5_back_59 : decode cX5_back 59 = .ok (.getfield 40, 3) := by decide +kernel
theorem dX5_back_62 : decode cX5_back 62 = .ok (.ireturn, 1) := by decide +kernel
theorem dX5_finished_0 : decode cX5_finished 0 = .ok (.iload_n 1, 1) := by decide +kernel
theorem dX5_finished_1 : decode cX5_finished 1 = .ok (.bipush (-2), 2) := by decide +kernel
theorem dX5_finished_3 : decode cX5_finished 3 = .ok (.if_icmp .gt 9, 3) := by decide +kernel
theorem dX5_finished_6 : decode cX5_finished 6 = .ok (.aload_n 0, 1) := by decide +kernel
theorem dX5_finished_7 : decode cX5_finished 7 = .ok (.iload_n 1, 1) := by decide +kernel
theorem dX5_finished_8 : decode cX5_finished 8 = .ok (.invokevirtual 44, 3) := by decide +kernel
theorem dX5_finished_11 : decode cX5_finished 11 = .ok (.ireturn, 1) := by decide +kernel
theorem dX5_finished_12 : decode cX5_finished 12 = .ok (.aload_n 0, 1) := by decide +kernel
theorem dX5_finished_13 : decode cX5_finished 13 = .ok (.invokevirtual 48, 3) := by decide +kernel
theorem dX5_finished_16 : decode cX5_finished 16 = .ok (.iload_n 1, 1) := by decide +kernel
theorem dX5_finished_17 : decode cX5_finished 17 = .ok (.ireturn, 1) := by decide +kernel
theorem dX5_isDrum_0 : decode cX5_isDrum 0 = .ok (.iload_n 0, 1) := by decide +kernel
theorem dX5_isDrum_1 : decode cX5_isDrum 1 = .ok (.i2l, 1) := by decide +kernel
theorem dX5_isDrum_2 : decode cX5_isDrum 2 = .ok (.lconst 0, 1) := by decide +kernel
theorem dX5_isDrum_3 : decode cX5_isDrum 3 = .ok (.ldc2_w 51, 3) := by decide +kernel
theorem dX5_isDrum_6 : decode cX5_isDrum 6 = .ok (.invokestatic 53, 3) := by decide +kernel
theorem dX5_isDrum_9 : decode cX5_isDrum 9 = .ok (.ireturn, 1) := by decide +kernel
theorem dX5_whole_0 : decode cX5_whole 0 = .ok (.iconst 0, 1) := by decide +kernel
theorem dX5_whole_1 : decode cX5_whole 1 = .ok (.istore_n 2, 1) := by decide +kernel
theorem dX5_whole_2 : decode cX5_whole 2 = .ok (.iconst 1, 1) := by decide +kernel
theorem dX5_whole_3 : decode cX5_whole 3 = .ok (.istore_n 3, 1) := by decide +kernel
theorem dX5_whole_4 : decode cX5_whole 4 = .ok (.iload_n 3, 1) := by decide +kernel
theorem dX5_whole_5 : decode cX5_whole 5 = .ok (.iload_n 0, 1) := by decide +kernel
theorem dX5_whole_6 : decode cX5_whole 6 = .ok (.if_icmp .gt 19, 3) := by decide +kernel
theorem dX5_whole_9 : decode cX5_whole 9 = .ok (.iload_n 2, 1) := by decide +kernel
theorem dX5_whole_10 : decode cX5_whole 10 = .ok (.iload_n 1, 1) := by decide +kernel
theorem dX5_whole_11 : decode cX5_whole 11 = .ok (.iload_n 3, 1) := by decide +kernel
theorem dX5_whole_12 : decode cX5_whole 12 = .ok (.ishr, 1) := by decide +kernel
theorem dX5_whole_13 : decode cX5_whole 13 = .ok (.iconst 1, 1) := by decide +kernel
theorem dX5_whole_14 : decode cX5_whole 14 = .ok (.iand, 1) := by decide +kernel
theorem dX5_whole_15 : decode cX5_whole 15 = .ok (.iconst 1, 1) := by decide +kernel
theorem dX5_whole_16 : decode cX5_whole 16 = .ok (.ixor, 1) := by decide +kernel
theorem dX5_whole_17 : decode cX5_whole 17 = .ok (.iadd, 1) := by decide +kernel
theorem dX5_whole_18 : decode cX5_whole 18 = .ok (.istore_n 2, 1) := by decide +kernel
theorem dX5_whole_19 : decode cX5_whole 19 = .ok (.iinc 3 1, 3) := by decide +kernel
theorem dX5_whole_22 : decode cX5_whole 22 = .ok (.goto (-18), 3) := by decide +kernel
theorem dX5_whole_25 : decode cX5_whole 25 = .ok (.iload_n 2, 1) := by decide +kernel
theorem dX5_whole_26 : decode cX5_whole 26 = .ok (.ireturn, 1) := by decide +kernel
theorem dX5_laysGives_0 : decode cX5_laysGives 0 = .ok (.iconst 0, 1) := by decide +kernel
theorem dX5_laysGives_1 : decode cX5_laysGives 1 = .ok (.istore_n 1, 1) := by decide +kernel
theorem dX5_laysGives_2 : decode cX5_laysGives 2 = .ok (.iload_n 1, 1) := by decide +kernel
theorem dX5_laysGives_3 : decode cX5_laysGives 3 = .ok (.bipush 6, 2) := by decide +kernel
theorem dX5_laysGives_5 : decode cX5_laysGives 5 = .ok (.if_icmp .ge 35, 3) := by decide +kernel
theorem dX5_laysGives_8 : decode cX5_laysGives 8 = .ok (.aload_n 0, 1) := by decide +kernel
theorem dX5_laysGives_9 : decode cX5_laysGives 9 = .ok (.getfield 25, 3) := by decide +kernel
theorem dX5_laysGives_12 : decode cX5_laysGives 12 = .ok (.iload_n 1, 1) := by decide +kernel
theorem dX5_laysGives_13 : decode cX5_laysGives 13 = .ok (.aload_n 0, 1) := by decide +kernel
theorem dX5_laysGives_14 : decode cX5_laysGives 14 = .ok (.getfield 7, 3) := by decide +kernel
theorem dX5_laysGives_17 : decode cX5_laysGives 17 = .ok (.iconst 0, 1) := by decide +kernel
theorem dX5_laysGives_18 : decode cX5_laysGives 18 = .ok (.iload_n 1, 1) := by decide +kernel
theorem dX5_laysGives_19 : decode cX5_laysGives 19 = .ok (.iadd, 1) := by decide +kernel
theorem dX5_laysGives_20 : decode cX5_laysGives 20 = .ok (.iaload, 1) := by decide +kernel
theorem dX5_laysGives_21 : decode cX5_laysGives 21 = .ok (.aload_n 0, 1) := by decide +kernel
theorem dX5_laysGives_22 : decode cX5_laysGives 22 = .ok (.getfield 7, 3) := by decide +kernel
theorem dX5_laysGives_25 : decode cX5_laysGives 25 = .ok (.bipush 6, 2) := by decide +kernel
theorem dX5_laysGives_27 : decode cX5_laysGives 27 = .ok (.iload_n 1, 1) := by decide +kernel
theorem dX5_laysGives_28 : decode cX5_laysGives 28 = .ok (.iadd, 1) := by decide +kernel
theorem dX5_laysGives_29 : decode cX5_laysGives 29 = .ok (.iaload, 1) := by decide +kernel
theorem dX5_laysGives_30 : decode cX5_laysGives 30 = .ok (.invokestatic 57, 3) := by decide +kernel
theorem dX5_laysGives_33 : decode cX5_laysGives 33 = .ok (.iastore, 1) := by decide +kernel
theorem dX5_laysGives_34 : decode cX5_laysGives 34 = .ok (.iinc 1 1, 3) := by decide +kernel
theorem dX5_laysGives_37 : decode cX5_laysGives 37 = .ok (.goto (-35), 3) := by decide +kernel
theorem dX5_laysGives_40 : decode cX5_laysGives 40 = .ok (.return_, 1) := by decide +kernel
theorem dX5_turnsBy_0 : decode cX5_turnsBy 0 = .ok (.iload_n 3, 1) := by decide +kernel
theorem dX5_turnsBy_1 : decode cX5_turnsBy 1 = .ok (.iconst 5, 1) := by decide +kernel
theorem dX5_turnsBy_2 : decode cX5_turnsBy 2 = .ok (.iadd, 1) := by decide +kernel
theorem dX5_turnsBy_3 : decode cX5_turnsBy 3 = .ok (.aload_n 0, 1) := by decide +kernel
theorem dX5_turnsBy_4 : decode cX5_turnsBy 4 = .ok (.getfield 7, 3) := by decide +kernel
theorem dX5_turnsBy_7 : decode cX5_turnsBy 7 = .ok (.bipush 32, 2) := by decide +kernel
theorem dX5_turnsBy_9 : decode cX5_turnsBy 9 = .ok (.iaload, 1) := by decide +kernel
theorem dX5_turnsBy_10 : decode cX5_turnsBy 10 = .ok (.iadd, 1) := by decide +kernel
theorem dX5_turnsBy_11 : decode cX5_turnsBy 11 = .ok (.istore 5, 2) := by decide +kernel
theorem dX5_turnsBy_13 : decode cX5_turnsBy 13 = .ok (.iconst 0, 1) := by decide +kernel
theorem dX5_turnsBy_14 : decode cX5_turnsBy 14 = .ok (.istore 6, 2) := by decide +kernel
theorem dX5_turnsBy_16 : decode cX5_turnsBy 16 = .ok (.iconst 0, 1) := by decide +kernel
theorem dX5_turnsBy_17 : decode cX5_turnsBy 17 = .ok (.istore 7, 2) := by decide +kernel
theorem dX5_turnsBy_19 : decode cX5_turnsBy 19 = .ok (.iload 7, 2) := by decide +kernel
theorem dX5_turnsBy_21 : decode cX5_turnsBy 21 = .ok (.bipush 6, 2) := by decide +kernel
theorem dX5_turnsBy_23 : decode cX5_turnsBy 23 = .ok (.if_icmp .ge 97, 3) := by decide +kernel
theorem dX5_turnsBy_26 : decode cX5_turnsBy 26 = .ok (.aload_n 1, 1) := by decide +kernel
theorem dX5_turnsBy_27 : decode cX5_turnsBy 27 = .ok (.iload_n 2, 1) := by decide +kernel
theorem dX5_turnsBy_28 : decode cX5_turnsBy 28 = .ok (.iload 7, 2) := by decide +kernel
theorem dX5_turnsBy_30 : decode cX5_turnsBy 30 = .ok (.iadd, 1) := by decide +kernel
theorem dX5_turnsBy_31 : decode cX5_turnsBy 31 = .ok (.iload_n 3, 1) := by decide +kernel
theorem dX5_turnsBy_32 : decode cX5_turnsBy 32 = .ok (.iadd, 1) := by decide +kernel
theorem dX5_turnsBy_33 : decode cX5_turnsBy 33 = .ok (.iaload, 1) := by decide +kernel
theorem dX5_turnsBy_34 : decode cX5_turnsBy 34 = .ok (.iload 4, 2) := by decide +kernel
theorem dX5_turnsBy_36 : decode cX5_turnsBy 36 = .ok (.aload_n 0, 1) := by decide +kernel
theorem dX5_turnsBy_37 : decode cX5_turnsBy 37 = .ok (.getfield 25, 3) := by decide +kernel
theorem dX5_turnsBy_40 : decode cX5_turnsBy 40 = .ok (.iload 7, 2) := by decide +kernel
theorem dX5_turnsBy_42 : decode cX5_turnsBy 42 = .ok (.iaload, 1) := by decide +kernel
theorem dX5_turnsBy_43 : decode cX5_turnsBy 43 = .ok (.imul, 1) := by decide +kernel
theorem dX5_turnsBy_44 : decode cX5_turnsBy 44 = .ok (.iadd, 1) := by decide +kernel
theorem dX5_turnsBy_45 : decode cX5_turnsBy 45 = .ok (.istore 8, 2) := by decide +kernel
theorem dX5_turnsBy_47 : decode cX5_turnsBy 47 = .ok (.iload 8, 2) := by decide +kernel
theorem dX5_turnsBy_49 : decode cX5_turnsBy 49 = .ok (.bipush 9, 2) := by decide +kernel
theorem dX5_turnsBy_51 : decode cX5_turnsBy 51 = .ok (.if_icmp .gt 8, 3) := by decide +kernel
theorem dX5_turnsBy_54 : decode cX5_turnsBy 54 = .ok (.iload 8, 2) := by decide +kernel
theorem dX5_turnsBy_56 : decode cX5_turnsBy 56 = .ok (.ifCond .ge 7, 3) := by decide +kernel
theorem dX5_turnsBy_59 : decode cX5_turnsBy 59 = .ok (.iconst 1, 1) := by decide +kernel
theorem dX5_turnsBy_60 : decode cX5_turnsBy 60 = .ok (.goto 4, 3) := by decide +kernel
theorem dX5_turnsBy_63 : decode cX5_turnsBy 63 = .ok (.iconst 0, 1) := by decide +kernel
theorem dX5_turnsBy_64 : decode cX5_turnsBy 64 = .ok (.istore 9, 2) := by decide +kernel
theorem dX5_turnsBy_66 : decode cX5_turnsBy 66 = .ok (.aload_n 1, 1) := by decide +kernel
theorem dX5_turnsBy_67 : decode cX5_turnsBy 67 = .ok (.iload_n 2, 1) := by decide +kernel
theorem dX5_turnsBy_68 : decode cX5_turnsBy 68 = .ok (.iload 7, 2) := by decide +kernel
theorem dX5_turnsBy_70 : decode cX5_turnsBy 70 = .ok (.iadd, 1) := by decide +kernel
theorem dX5_turnsBy_71 : decode cX5_turnsBy 71 = .ok (.iload_n 3, 1) := by decide +kernel
theorem dX5_turnsBy_72 : decode cX5_turnsBy 72 = .ok (.iadd, 1) := by decide +kernel
theorem dX5_turnsBy_73 : decode cX5_turnsBy 73 = .ok (.iload 9, 2) := by decide +kernel
theorem dX5_turnsBy_75 : decode cX5_turnsBy 75 = .ok (.ifCond .eq 14, 3) := by decide +kernel
theorem dX5_turnsBy_78 : decode cX5_turnsBy 78 = .ok (.iload 8, 2) := by decide +kernel
theorem dX5_turnsBy_80 : decode cX5_turnsBy 80 = .ok (.bipush 10, 2) := by decide +kernel
theorem dX5_turnsBy_82 : decode cX5_turnsBy 82 = .ok (.iload 4, 2) := by decide +kernel
theorem dX5_turnsBy_84 : decode cX5_turnsBy 84 = .ok (.imul, 1) := by decide +kernel
theorem dX5_turnsBy_85 : decode cX5_turnsBy 85 = .ok (.isub, 1) := by decide +kernel
theorem dX5_turnsBy_86 : decode cX5_turnsBy 86 = .ok (.goto 5, 3) := by decide +kernel
theorem dX5_turnsBy_89 : decode cX5_turnsBy 89 = .ok (.iload 8, 2) := by decide +kernel
theorem dX5_turnsBy_91 : decode cX5_turnsBy 91 = .ok (.iastore, 1) := by decide +kernel
theorem dX5_turnsBy_92 : decode cX5_turnsBy 92 = .ok (.iload 6, 2) := by decide +kernel
theorem dX5_turnsBy_94 : decode cX5_turnsBy 94 = .ok (.iload 9, 2) := by decide +kernel
theorem dX5_turnsBy_96 : decode cX5_turnsBy 96 = .ok (.ifCond .eq 14, 3) := by decide +kernel
theorem dX5_turnsBy_99 : decode cX5_turnsBy 99 = .ok (.iconst 1, 1) := by decide +kernel
theorem dX5_turnsBy_100 : decode cX5_turnsBy 100 = .ok (.iload 7, 2) := by decide +kernel
theorem dX5_turnsBy_102 : decode cX5_turnsBy 102 = .ok (.iload_n 3, 1) := by decide +kernel
theorem dX5_turnsBy_103 : decode cX5_turnsBy 103 = .ok (.iadd, 1) := by decide +kernel
theorem dX5_turnsBy_104 : decode cX5_turnsBy 104 = .ok (.iconst 1, 1) := by decide +kernel
theorem dX5_turnsBy_105 : decode cX5_turnsBy 105 = .ok (.iadd, 1) := by decide +kernel
theorem dX5_turnsBy_106 : decode cX5_turnsBy 106 = .ok (.ishl, 1) := by decide +kernel
theorem dX5_turnsBy_107 : decode cX5_turnsBy 107 = .ok (.goto 4, 3) := by decide +kernel
theorem dX5_turnsBy_110 : decode cX5_turnsBy 110 = .ok (.iconst 0, 1) := by decide +kernel
theorem dX5_turnsBy_111 : decode cX5_turnsBy 111 = .ok (.ior, 1) := by decide +kernel
theorem dX5_turnsBy_112 : decode cX5_turnsBy 112 = .ok (.istore 6, 2) := by decide +kernel
theorem dX5_turnsBy_114 : decode cX5_turnsBy 114 = .ok (.iinc 7 1, 3) := by decide +kernel
theorem dX5_turnsBy_117 : decode cX5_turnsBy 117 = .ok (.goto (-98), 3) := by decide +kernel
theorem dX5_turnsBy_120 : decode cX5_turnsBy 120 = .ok (.iload_n 3, 1) := by decide +kernel
theorem dX5_turnsBy_121 : decode cX5_turnsBy 121 = .ok (.istore 7, 2) := by decide +kernel
theorem dX5_turnsBy_123 : decode cX5_turnsBy 123 = .ok (.iload 7, 2) := by decide +kernel
theorem dX5_turnsBy_125 : decode cX5_turnsBy 125 = .ok (.bipush 12, 2) := by decide +kernel
theorem dX5_turnsBy_127 : decode cX5_turnsBy 127 = .ok (.if_icmp .ge 101, 3) := by decide +kernel
theorem dX5_turnsBy_130 : decode cX5_turnsBy 130 = .ok (.iload 6, 2) := by decide +kernel
theorem dX5_turnsBy_132 : decode cX5_turnsBy 132 = .ok (.iload 7, 2) := by decide +kernel
theorem dX5_turnsBy_134 : decode cX5_turnsBy 134 = .ok (.ishr, 1) := by decide +kernel
theorem dX5_turnsBy_135 : decode cX5_turnsBy 135 = .ok (.iconst 1, 1) := by decide +kernel
theorem dX5_turnsBy_136 : decode cX5_turnsBy 136 = .ok (.iand, 1) := by decide +kernel
theorem dX5_turnsBy_137 : decode cX5_turnsBy 137 = .ok (.iconst 1, 1) := by decide +kernel
theorem dX5_turnsBy_138 : decode cX5_turnsBy 138 = .ok (.if_icmp .ne 84, 3) := by decide +kernel
theorem dX5_turnsBy_141 : decode cX5_turnsBy 141 = .ok (.iload 7, 2) := by decide +kernel
theorem dX5_turnsBy_143 : decode cX5_turnsBy 143 = .ok (.iload 5, 2) := by decide +kernel
theorem dX5_turnsBy_145 : decode cX5_turnsBy 145 = .ok (.if_icmp .gt 77, 3) := by decide +kernel
theorem dX5_turnsBy_148 : decode cX5_turnsBy 148 = .ok (.aload_n 1, 1) := by decide +kernel
theorem dX5_turnsBy_149 : decode cX5_turnsBy 149 = .ok (.iload_n 2, 1) := by decide +kernel
theorem dX5_turnsBy_150 : decode cX5_turnsBy 150 = .ok (.iload 7, 2) := by decide +kernel
theorem dX5_turnsBy_152 : decode cX5_turnsBy 152 = .ok (.iadd, 1) := by decide +kernel
theorem dX5_turnsBy_153 : decode cX5_turnsBy 153 = .ok (.iaload, 1) := by decide +kernel
theorem dX5_turnsBy_154 : decode cX5_turnsBy 154 = .ok (.iload 4, 2) := by decide +kernel
theorem dX5_turnsBy_156 : decode cX5_turnsBy 156 = .ok (.iadd, 1) := by decide +kernel
theorem dX5_turnsBy_157 : decode cX5_turnsBy 157 = .ok (.istore 8, 2) := by decide +kernel
theorem dX5_turnsBy_159 : decode cX5_turnsBy 159 = .ok (.iload 8, 2) := by decide +kernel
theorem dX5_turnsBy_161 : decode cX5_turnsBy 161 = .ok (.bipush 9, 2) := by decide +kernel
theorem dX5_turnsBy_163 : decode cX5_turnsBy 163 = .ok (.if_icmp .gt 8, 3) := by decide +kernel
theorem dX5_turnsBy_166 : decode cX5_turnsBy 166 = .ok (.iload 8, 2) := by decide +kernel
theorem dX5_turnsBy_168 : decode cX5_turnsBy 168 = .ok (.ifCond .ge 7, 3) := by decide +kernel
theorem dX5_turnsBy_171 : decode cX5_turnsBy 171 = .ok (.iconst 1, 1) := by decide +kernel
theorem dX5_turnsBy_172 : decode cX5_turnsBy 172 = .ok (.goto 4, 3) := by decide +kernel
theorem dX5_turnsBy_175 : decode cX5_turnsBy 175 = .ok (.iconst 0, 1) := by decide +kernel
theorem dX5_turnsBy_176 : decode cX5_turnsBy 176 = .ok (.istore 9, 2) := by decide +kernel
theorem dX5_turnsBy_178 : decode cX5_turnsBy 178 = .ok (.aload_n 1, 1) := by decide +kernel
theorem dX5_turnsBy_179 : decode cX5_turnsBy 179 = .ok (.iload_n 2, 1) := by decide +kernel
theorem dX5_turnsBy_180 : decode cX5_turnsBy 180 = .ok (.iload 7, 2) := by decide +kernel
theorem dX5_turnsBy_182 : decode cX5_turnsBy 182 = .ok (.iadd, 1) := by decide +kernel
theorem dX5_turnsBy_183 : decode cX5_turnsBy 183 = .ok (.iload 9, 2) := by decide +kernel
theorem dX5_turnsBy_185 : decode cX5_turnsBy 185 = .ok (.ifCond .eq 14, 3) := by decide +kernel
theorem dX5_turnsBy_188 : decode cX5_turnsBy 188 = .ok (.iload 8, 2) := by decide +kernel
theorem dX5_turnsBy_190 : decode cX5_turnsBy 190 = .ok (.bipush 10, 2) := by decide +kernel
theorem dX5_turnsBy_192 : decode cX5_turnsBy 192 = .ok (.iload 4, 2) := by decide +kernel
theorem dX5_turnsBy_194 : decode cX5_turnsBy 194 = .ok (.imul, 1) := by decide +kernel
theorem dX5_turnsBy_195 : decode cX5_turnsBy 195 = .ok (.isub, 1) := by decide +kernel
theorem dX5_turnsBy_196 : decode cX5_turnsBy 196 = .ok (.goto 5, 3) := by decide +kernel
theorem dX5_turnsBy_199 : decode cX5_turnsBy 199 = .ok (.iload 8, 2) := by decide +kernel
theorem dX5_turnsBy_201 : decode cX5_turnsBy 201 = .ok (.iastore, 1) := by decide +kernel
theorem dX5_turnsBy_202 : decode cX5_turnsBy 202 = .ok (.iload 6, 2) := by decide +kernel
theorem dX5_turnsBy_204 : decode cX5_turnsBy 204 = .ok (.iload 9, 2) := by decide +kernel
theorem dX5_turnsBy_206 : decode cX5_turnsBy 206 = .ok (.ifCond .eq 12, 3) := by decide +kernel
theorem dX5_turnsBy_209 : decode cX5_turnsBy 209 = .ok (.iconst 1, 1) := by decide +kernel
theorem dX5_turnsBy_210 : decode cX5_turnsBy 210 = .ok (.iload 7, 2) := by decide +kernel
theorem dX5_turnsBy_212 : decode cX5_turnsBy 212 = .ok (.iconst 1, 1) := by decide +kernel
theorem dX5_turnsBy_213 : decode cX5_turnsBy 213 = .ok (.iadd, 1) := by decide +kernel
theorem dX5_turnsBy_214 : decode cX5_turnsBy 214 = .ok (.ishl, 1) := by decide +kernel
theorem dX5_turnsBy_215 : decode cX5_turnsBy 215 = .ok (.goto 4, 3) := by decide +kernel
theorem dX5_turnsBy_218 : decode cX5_turnsBy 218 = .ok (.iconst 0, 1) := by decide +kernel
theorem dX5_turnsBy_219 : decode cX5_turnsBy 219 = .ok (.ior, 1) := by decide +kernel
theorem dX5_turnsBy_220 : decode cX5_turnsBy 220 = .ok (.istore 6, 2) := by decide +kernel
theorem dX5_turnsBy_222 : decode cX5_turnsBy 222 = .ok (.iinc 7 1, 3) := by decide +kernel
theorem dX5_turnsBy_225 : decode cX5_turnsBy 225 = .ok (.goto (-102), 3) := by decide +kernel
theorem dX5_turnsBy_228 : decode cX5_turnsBy 228 = .ok (.iload 6, 2) := by decide +kernel
theorem dX5_turnsBy_230 : decode cX5_turnsBy 230 = .ok (.bipush 12, 2) := by decide +kernel
theorem dX5_turnsBy_232 : decode cX5_turnsBy 232 = .ok (.ishr, 1) := by decide +kernel
theorem dX5_turnsBy_233 : decode cX5_turnsBy 233 = .ok (.iconst 1, 1) := by decide +kernel
theorem dX5_turnsBy_234 : decode cX5_turnsBy 234 = .ok (.iand, 1) := by decide +kernel
theorem dX5_turnsBy_235 : decode cX5_turnsBy 235 = .ok (.iconst 1, 1) := by decide +kernel
theorem dX5_turnsBy_236 : decode cX5_turnsBy 236 = .ok (.if_icmp .ne 14, 3) := by decide +kernel
theorem dX5_turnsBy_239 : decode cX5_turnsBy 239 = .ok (.bipush 12, 2) := by decide +kernel
theorem dX5_turnsBy_241 : decode cX5_turnsBy 241 = .ok (.iload 5, 2) := by decide +kernel
theorem dX5_turnsBy_243 : decode cX5_turnsBy 243 = .ok (.if_icmp .gt 7, 3) := by decide +kernel
theorem dX5_turnsBy_246 : decode cX5_turnsBy 246 = .ok (.iconst 1, 1) := by decide +kernel
theorem dX5_turnsBy_247 : decode cX5_turnsBy 247 = .ok (.goto 4, 3) := by decide +kernel
theorem dX5_turnsBy_250 : decode cX5_turnsBy 250 = .ok (.iconst 0, 1) := by decide +kernel
theorem dX5_turnsBy_251 : decode cX5_turnsBy 251 = .ok (.ireturn, 1) := by decide +kernel
theorem dX5_turnsOnce_0 : decode cX5_turnsOnce 0 = .ok (.aload_n 0, 1) := by decide +kernel
theorem dX5_turnsOnce_1 : decode cX5_turnsOnce 1 = .ok (.getfield 7, 3) := by decide +kernel
theorem dX5_turnsOnce_4 : decode cX5_turnsOnce 4 = .ok (.bipush 31, 2) := by decide +kernel
theorem dX5_turnsOnce_6 : decode cX5_turnsOnce 6 = .ok (.iaload, 1) := by decide +kernel
theorem dX5_turnsOnce_7 : decode cX5_turnsOnce 7 = .ok (.istore_n 3, 1) := by decide +kernel
theorem dX5_turnsOnce_8 : decode cX5_turnsOnce 8 = .ok (.aload_n 0, 1) := by decide +kernel
theorem dX5_turnsOnce_9 : decode cX5_turnsOnce 9 = .ok (.aload_n 0, 1) := by decide +kernel
theorem dX5_turnsOnce_10 : decode cX5_turnsOnce 10 = .ok (.getfield 7, 3) := by decide +kernel
theorem dX5_turnsOnce_13 : decode cX5_turnsOnce 13 = .ok (.bipush 12, 2) := by decide +kernel
theorem dX5_turnsOnce_15 : decode cX5_turnsOnce 15 = .ok (.iload_n 3, 1) := by decide +kernel
theorem dX5_turnsOnce_16 : decode cX5_turnsOnce 16 = .ok (.iload_n 1, 1) := by decide +kernel
theorem dX5_turnsOnce_17 : decode cX5_turnsOnce 17 = .ok (.invokevirtual 61, 3) := by decide +kernel
theorem dX5_turnsOnce_20 : decode cX5_turnsOnce 20 = .ok (.istore 4, 2) := by decide +kernel
theorem dX5_turnsOnce_22 : decode cX5_turnsOnce 22 = .ok (.aload_n 0, 1) := by decide +kernel
theorem dX5_turnsOnce_23 : decode cX5_turnsOnce 23 = .ok (.getfield 7, 3) := by decide +kernel
theorem dX5_turnsOnce_26 : decode cX5_turnsOnce 26 = .ok (.bipush 33, 2) := by decide +kernel
theorem dX5_turnsOnce_28 : decode cX5_turnsOnce 28 = .ok (.dup2, 1) := by decide +kernel
theorem dX5_turnsOnce_29 : decode cX5_turnsOnce 29 = .ok (.iaload, 1) := by decide +kernel
theorem dX5_turnsOnce_30 : decode cX5_turnsOnce 30 = .ok (.iload 4, 2) := by decide +kernel
theorem dX5_turnsOnce_32 : decode cX5_turnsOnce 32 = .ok (.ifCond .eq 7, 3) := by decide +kernel
theorem dX5_turnsOnce_35 : decode cX5_turnsOnce 35 = .ok (.iconst 1, 1) := by decide +kernel
theorem dX5_turnsOnce_36 : decode cX5_turnsOnce 36 = .ok (.goto 4, 3) := by decide +kernel
theorem dX5_turnsOnce_39 : decode cX5_turnsOnce 39 = .ok (.iconst 0, 1) := by decide +kernel
theorem dX5_turnsOnce_40 : decode cX5_turnsOnce 40 = .ok (.iadd, 1) := by decide +kernel
theorem dX5_turnsOnce_41 : decode cX5_turnsOnce 41 = .ok (.iastore, 1) := by decide +kernel
theorem dX5_turnsOnce_42 : decode cX5_turnsOnce 42 = .ok (.aload_n 0, 1) := by decide +kernel
theorem dX5_turnsOnce_43 : decode cX5_turnsOnce 43 = .ok (.getfield 7, 3) := by decide +kernel
theorem dX5_turnsOnce_46 : decode cX5_turnsOnce 46 = .ok (.bipush 24, 2) := by decide +kernel
theorem dX5_turnsOnce_48 : decode cX5_turnsOnce 48 = .ok (.iload_n 3, 1) := by decide +kernel
theorem dX5_turnsOnce_49 : decode cX5_turnsOnce 49 = .ok (.iadd, 1) := by decide +kernel
theorem dX5_turnsOnce_50 : decode cX5_turnsOnce 50 = .ok (.aload_n 0, 1) := by decide +kernel
theorem dX5_turnsOnce_51 : decode cX5_turnsOnce 51 = .ok (.getfield 7, 3) := by decide +kernel
theorem dX5_turnsOnce_54 : decode cX5_turnsOnce 54 = .ok (.bipush 24, 2) := by decide +kernel
theorem dX5_turnsOnce_56 : decode cX5_turnsOnce 56 = .ok (.iload_n 3, 1) := by decide +kernel
theorem dX5_turnsOnce_57 : decode cX5_turnsOnce 57 = .ok (.iadd, 1) := by decide +kernel
theorem dX5_turnsOnce_58 : decode cX5_turnsOnce 58 = .ok (.iaload, 1) := by decide +kernel
theorem dX5_turnsOnce_59 : decode cX5_turnsOnce 59 = .ok (.iload_n 2, 1) := by decide +kernel
theorem dX5_turnsOnce_60 : decode cX5_turnsOnce 60 = .ok (.iadd, 1) := by decide +kernel
theorem dX5_turnsOnce_61 : decode cX5_turnsOnce 61 = .ok (.bipush 10, 2) := by decide +kernel
theorem dX5_turnsOnce_63 : decode cX5_turnsOnce 63 = .ok (.iadd, 1) := by decide +kernel
theorem dX5_turnsOnce_64 : decode cX5_turnsOnce 64 = .ok (.bipush 10, 2) := by decide +kernel
theorem dX5_turnsOnce_66 : decode cX5_turnsOnce 66 = .ok (.irem, 1) := by decide +kernel
theorem dX5_turnsOnce_67 : decode cX5_turnsOnce 67 = .ok (.iastore, 1) := by decide +kernel
theorem dX5_turnsOnce_68 : decode cX5_turnsOnce 68 = .ok (.aload_n 0, 1) := by decide +kernel
theorem dX5_turnsOnce_69 : decode cX5_turnsOnce 69 = .ok (.getfield 7, 3) := by decide +kernel
theorem dX5_turnsOnce_72 : decode cX5_turnsOnce 72 = .ok (.bipush 34, 2) := by decide +kernel
theorem dX5_turnsOnce_74 : decode cX5_turnsOnce 74 = .ok (.dup2, 1) := by decide +kernel
theorem dX5_turnsOnce_75 : decode cX5_turnsOnce 75 = .ok (.iaload, 1) := by decide +kernel
theorem dX5_turnsOnce_76 : decode cX5_turnsOnce 76 = .ok (.iconst 1, 1) := by decide +kernel
theorem dX5_turnsOnce_77 : decode cX5_turnsOnce 77 = .ok (.iadd, 1) := by decide +kernel
theorem dX5_turnsOnce_78 : decode cX5_turnsOnce 78 = .ok (.iastore, 1) := by decide +kernel
theorem dX5_turnsOnce_79 : decode cX5_turnsOnce 79 = .ok (.iload 4, 2) := by decide +kernel
theorem dX5_turnsOnce_81 : decode cX5_turnsOnce 81 = .ok (.ireturn, 1) := by decide +kernel
theorem dX5_doesTurns_0 : decode cX5_doesTurns 0 = .ok (.iload_n 1, 1) := by decide +kernel
theorem dX5_doesTurns_1 : decode cX5_doesTurns 1 = .ok (.i2l, 1) := by decide +kernel
theorem dX5_doesTurns_2 : decode cX5_doesTurns 2 = .ok (.lconst 1, 1) := by decide +kernel
theorem dX5_doesTurns_3 : decode cX5_doesTurns 3 = .ok (.ldc2_w 65, 3) := by decide +kernel
theorem dX5_doesTurns_6 : decode cX5_doesTurns 6 = .ok (.invokestatic 53, 3) := by decide +kernel
theorem dX5_doesTurns_9 : decode cX5_doesTurns 9 = .ok (.ifCond .ne 6, 3) := by decide +kernel
theorem dX5_doesTurns_12 : decode cX5_doesTurns 12 = .ok (.bipush (-2), 2) := by decide +kernel
theorem dX5_doesTurns_14 : decode cX5_doesTurns 14 = .ok (.ireturn, 1) := by decide +kernel
theorem dX5_doesTurns_15 : decode cX5_doesTurns 15 = .ok (.aload_n 0, 1) := by decide +kernel
theorem dX5_doesTurns_16 : decode cX5_doesTurns 16 = .ok (.invokevirtual 67, 3) := by decide +kernel
theorem dX5_doesTurns_19 : decode cX5_doesTurns 19 = .ok (.iconst 0, 1) := by decide +kernel
theorem dX5_doesTurns_20 : decode cX5_doesTurns 20 = .ok (.istore_n 3, 1) := by decide +kernel
theorem dX5_doesTurns_21 : decode cX5_doesTurns 21 = .ok (.iconst 0, 1) := by decide +kernel
theorem dX5_doesTurns_22 : decode cX5_doesTurns 22 = .ok (.istore 4, 2) := by decide +kernel
theorem dX5_doesTurns_24 : decode cX5_doesTurns 24 = .ok (.iload 4, 2) := by decide +kernel
theorem dX5_doesTurns_26 : decode cX5_doesTurns 26 = .ok (.iload_n 1, 1) := by decide +kernel
theorem dX5_doesTurns_27 : decode cX5_doesTurns 27 = .ok (.if_icmp .ge 26, 3) := by decide +kernel
theorem dX5_doesTurns_30 : decode cX5_doesTurns 30 = .ok (.iload_n 3, 1) := by decide +kernel
theorem dX5_doesTurns_31 : decode cX5_doesTurns 31 = .ok (.aload_n 0, 1) := by decide +kernel
theorem dX5_doesTurns_32 : decode cX5_doesTurns 32 = .ok (.iload_n 2, 1) := by decide +kernel
theorem dX5_doesTurns_33 : decode cX5_doesTurns 33 = .ok (.iload_n 2, 1) := by decide +kernel
theorem dX5_doesTurns_34 : decode cX5_doesTurns 34 = .ok (.invokevirtual 70, 3) := by decide +kernel
theorem dX5_doesTurns_37 : decode cX5_doesTurns 37 = .ok (.ifCond .eq 7, 3) := by decide +kernel
theorem dX5_doesTurns_40 : decode cX5_doesTurns 40 = .ok (.iconst 1, 1) := by decide +kernel
theorem dX5_doesTurns_41 : decode cX5_doesTurns 41 = .ok (.goto 4, 3) := by decide +kernel
theorem dX5_doesTurns_44 : decode cX5_doesTurns 44 = .ok (.iconst 0, 1) := by decide +kernel
theorem dX5_doesTurns_45 : decode cX5_doesTurns 45 = .ok (.iadd, 1) := by decide +kernel
theorem dX5_doesTurns_46 : decode cX5_doesTurns 46 = .ok (.istore_n 3, 1) := by decide +kernel
theorem dX5_doesTurns_47 : decode cX5_doesTurns 47 = .ok (.iinc 4 1, 3) := by decide +kernel
theorem dX5_doesTurns_50 : decode cX5_doesTurns 50 = .ok (.goto (-26), 3) := by decide +kernel
theorem dX5_doesTurns_53 : decode cX5_doesTurns 53 = .ok (.iload_n 3, 1) := by decide +kernel
theorem dX5_doesTurns_54 : decode cX5_doesTurns 54 = .ok (.ireturn, 1) := by decide +kernel
theorem dX5_clearsAll_0 : decode cX5_clearsAll 0 = .ok (.iconst 0, 1) := by decide +kernel
theorem dX5_clearsAll_1 : decode cX5_clearsAll 1 = .ok (.istore_n 1, 1) := by decide +kernel
theorem dX5_clearsAll_2 : decode cX5_clearsAll 2 = .ok (.iconst 0, 1) := by decide +kernel
theorem dX5_clearsAll_3 : decode cX5_clearsAll 3 = .ok (.istore_n 2, 1) := by decide +kernel
theorem dX5_clearsAll_4 : decode cX5_clearsAll 4 = .ok (.iload_n 2, 1) := by decide +kernel
theorem dX5_clearsAll_5 : decode cX5_clearsAll 5 = .ok (.bipush 12, 2) := by decide +kernel
theorem dX5_clearsAll_7 : decode cX5_clearsAll 7 = .ok (.if_icmp .ge 39, 3) := by decide +kernel
theorem dX5_clearsAll_10 : decode cX5_clearsAll 10 = .ok (.iload_n 1, 1) := by decide +kernel
theorem dX5_clearsAll_11 : decode cX5_clearsAll 11 = .ok (.aload_n 0, 1) := by decide +kernel
theorem dX5_clearsAll_12 : decode cX5_clearsAll 12 = .ok (.getfield 7, 3) := by decide +kernel
theorem dX5_clearsAll_15 : decode cX5_clearsAll 15 = .ok (.bipush 12, 2) := by decide +kernel
theorem dX5_clearsAll_17 : decode cX5_clearsAll 17 = .ok (.iload_n 2, 1) := by decide +kernel
theorem dX5_clearsAll_18 : decode cX5_clearsAll 18 = .ok (.iadd, 1) := by decide +kernel
theorem dX5_clearsAll_19 : decode cX5_clearsAll 19 = .ok (.iaload, 1) := by decide +kernel
theorem dX5_clearsAll_20 : decode cX5_clearsAll 20 = .ok (.ifCond .eq 7, 3) := by decide +kernel
theorem dX5_clearsAll_23 : decode cX5_clearsAll 23 = .ok (.iconst 1, 1) := by decide +kernel
theorem dX5_clearsAll_24 : decode cX5_clearsAll 24 = .ok (.goto 4, 3) := by decide +kernel
theorem dX5_clearsAll_27 : decode cX5_clearsAll 27 = .ok (.iconst 0, 1) := by decide +kernel
theorem dX5_clearsAll_28 : decode cX5_clearsAll 28 = .ok (.iadd, 1) := by decide +kernel
theorem dX5_clearsAll_29 : decode cX5_clearsAll 29 = .ok (.istore_n 1, 1) := by decide +kernel
theorem dX5_clearsAll_30 : decode cX5_clearsAll 30 = .ok (.aload_n 0, 1) := by decide +kernel
theorem dX5_clearsAll_31 : decode cX5_clearsAll 31 = .ok (.getfield 7, 3) := by decide +kernel
theorem dX5_clearsAll_34 : decode cX5_clearsAll 34 = .ok (.bipush 12, 2) := by decide +kernel
theorem dX5_clearsAll_36 : decode cX5_clearsAll 36 = .ok (.iload_n 2, 1) := by decide +kernel
theorem dX5_clearsAll_37 : decode cX5_clearsAll 37 = .ok (.iadd, 1) := by decide +kernel
theorem dX5_clearsAll_38 : decode cX5_clearsAll 38 = .ok (.iconst 0, 1) := by decide +kernel
theorem dX5_clearsAll_39 : decode cX5_clearsAll 39 = .ok (.iastore, 1) := by decide +kernel
theorem dX5_clearsAll_40 : decode cX5_clearsAll 40 = .ok (.iinc 2 1, 3) := by decide +kernel
theorem dX5_clearsAll_43 : decode cX5_clearsAll 43 = .ok (.goto (-39), 3) := by decide +kernel
theorem dX5_clearsAll_46 : decode cX5_clearsAll 46 = .ok (.aload_n 0, 1) := by decide +kernel
theorem dX5_clearsAll_47 : decode cX5_clearsAll 47 = .ok (.invokevirtual 74, 3) := by decide +kernel
theorem dX5_clearsAll_50 : decode cX5_clearsAll 50 = .ok (.iload_n 1, 1) := by decide +kernel
theorem dX5_clearsAll_51 : decode cX5_clearsAll 51 = .ok (.ireturn, 1) := by decide +kernel
theorem dX5_clearsCounters_0 : decode cX5_clearsCounters 0 = .ok (.iconst 0, 1) := by decide +kernel
theorem dX5_clearsCounters_1 : decode cX5_clearsCounters 1 = .ok (.istore_n 1, 1) := by decide +kernel
theorem dX5_clearsCounters_2 : decode cX5_clearsCounters 2 = .ok (.iload_n 1, 1) := by decide +kernel
theorem dX5_clearsCounters_3 : decode cX5_clearsCounters 3 = .ok (.bipush 7, 2) := by decide +kernel
theorem dX5_clearsCounters_5 : decode cX5_clearsCounters 5 = .ok (.if_icmp .ge 19, 3) := by decide +kernel
theorem dX5_clearsCounters_8 : decode cX5_clearsCounters 8 = .ok (.aload_n 0, 1) := by decide +kernel
theorem dX5_clearsCounters_9 : decode cX5_clearsCounters 9 = .ok (.getfield 7, 3) := by decide +kernel
theorem dX5_clearsCounters_12 : decode cX5_clearsCounters 12 = .ok (.bipush 24, 2) := by decide +kernel
theorem dX5_clearsCounters_14 : decode cX5_clearsCounters 14 = .ok (.iload_n 1, 1) := by decide +kernel
theorem dX5_clearsCounters_15 : decode cX5_clearsCounters 15 = .ok (.iadd, 1) := by decide +kernel
theorem dX5_clearsCounters_16 : decode cX5_clearsCounters 16 = .ok (.iconst 0, 1) := by decide +kernel
theorem dX5_clearsCounters_17 : decode cX5_clearsCounters 17 = .ok (.iastore, 1) := by decide +kernel
theorem dX5_clearsCounters_18 : decode cX5_clearsCounters 18 = .ok (.iinc 1 1, 3) := by decide +kernel
theorem dX5_clearsCounters_21 : decode cX5_clearsCounters 21 = .ok (.goto (-19), 3) := by decide +kernel
theorem dX5_clearsCounters_24 : decode cX5_clearsCounters 24 = .ok (.return_, 1) := by decide +kernel
theorem dX5_laysPlan_0 : decode cX5_laysPlan 0 = .ok (.iload_n 1, 1) := by decide +kernel
theorem dX5_laysPlan_1 : decode cX5_laysPlan 1 = .ok (.istore_n 3, 1) := by decide +kernel
theorem dX5_laysPlan_2 : decode cX5_laysPlan 2 = .ok (.iconst 0, 1) := by decide +kernel
theorem dX5_laysPlan_3 : decode cX5_laysPlan 3 = .ok (.istore 4, 2) := by decide +kernel
theorem dX5_laysPlan_5 : decode cX5_laysPlan 5 = .ok (.iconst 0, 1) := by decide +kernel
theorem dX5_laysPlan_6 : decode cX5_laysPlan 6 = .ok (.istore 5, 2) := by decide +kernel
theorem dX5_laysPlan_8 : decode cX5_laysPlan 8 = .ok (.iconst 0, 1) := by decide +kernel
theorem dX5_laysPlan_9 : decode cX5_laysPlan 9 = .ok (.istore 6, 2) := by decide +kernel
theorem dX5_laysPlan_11 : decode cX5_laysPlan 11 = .ok (.iload 6, 2) := by decide +kernel
theorem dX5_laysPlan_13 : decode cX5_laysPlan 13 = .ok (.bipush 7, 2) := by decide +kernel
theorem dX5_laysPlan_15 : decode cX5_laysPlan 15 = .ok (.if_icmp .ge 108, 3) := by decide +kernel
theorem dX5_laysPlan_18 : decode cX5_laysPlan 18 = .ok (.iload_n 3, 1) := by decide +kernel
theorem dX5_laysPlan_19 : decode cX5_laysPlan 19 = .ok (.bipush 10, 2) := by decide +kernel
theorem dX5_laysPlan_21 : decode cX5_laysPlan 21 = .ok (.irem, 1) := by decide +kernel
theorem dX5_laysPlan_22 : decode cX5_laysPlan 22 = .ok (.iload 4, 2) := by decide +kernel
theorem dX5_laysPlan_24 : decode cX5_laysPlan 24 = .ok (.iadd, 1) := by decide +kernel
theorem dX5_laysPlan_25 : decode cX5_laysPlan 25 = .ok (.istore 7, 2) := by decide +kernel
theorem dX5_laysPlan_27 : decode cX5_laysPlan 27 = .ok (.iload_n 3, 1) := by decide +kernel
theorem dX5_laysPlan_28 : decode cX5_laysPlan 28 = .ok (.bipush 10, 2) := by decide +kernel
theorem dX5_laysPlan_30 : decode cX5_laysPlan 30 = .ok (.idiv, 1) := by decide +kernel
theorem dX5_laysPlan_31 : decode cX5_laysPlan 31 = .ok (.istore_n 3, 1) := by decide +kernel
theorem dX5_laysPlan_32 : decode cX5_laysPlan 32 = .ok (.iload_n 2, 1) := by decide +kernel
theorem dX5_laysPlan_33 : decode cX5_laysPlan 33 = .ok (.iconst 1, 1) := by decide +kernel
theorem dX5_laysPlan_34 : decode cX5_laysPlan 34 = .ok (.if_icmp .ne 13, 3) := by decide +kernel
theorem dX5_laysPlan_37 : decode cX5_laysPlan 37 = .ok (.iload 7, 2) := by decide +kernel
theorem dX5_laysPlan_39 : decode cX5_laysPlan 39 = .ok (.iconst 5, 1) := by decide +kernel
theorem dX5_laysPlan_40 : decode cX5_laysPlan 40 = .ok (.if_icmp .le 7, 3) := by decide +kernel
theorem dX5_laysPlan_43 : decode cX5_laysPlan 43 = .ok (.iconst 1, 1) := by decide +kernel
theorem dX5_laysPlan_44 : decode cX5_laysPlan 44 = .ok (.goto 4, 3) := by decide +kernel
theorem dX5_laysPlan_47 : decode cX5_laysPlan 47 = .ok (.iconst 0, 1) := by decide +kernel
theorem dX5_laysPlan_48 : decode cX5_laysPlan 48 = .ok (.istore 8, 2) := by decide +kernel
theorem dX5_laysPlan_50 : decode cX5_laysPlan 50 = .ok (.iload 8, 2) := by decide +kernel
theorem dX5_laysPlan_52 : decode cX5_laysPlan 52 = .ok (.ifCond .eq 7, 3) := by decide +kernel
theorem dX5_laysPlan_55 : decode cX5_laysPlan 55 = .ok (.iconst 1, 1) := by decide +kernel
theorem dX5_laysPlan_56 : decode cX5_laysPlan 56 = .ok (.goto 4, 3) := by decide +kernel
theorem dX5_laysPlan_59 : decode cX5_laysPlan 59 = .ok (.iconst 0, 1) := by decide +kernel
theorem dX5_laysPlan_60 : decode cX5_laysPlan 60 = .ok (.istore 4, 2) := by decide +kernel
theorem dX5_laysPlan_62 : decode cX5_laysPlan 62 = .ok (.aload_n 0, 1) := by decide +kernel
theorem dX5_laysPlan_63 : decode cX5_laysPlan 63 = .ok (.getfield 31, 3) := by decide +kernel
theorem dX5_laysPlan_66 : decode cX5_laysPlan 66 = .ok (.iload 6, 2) := by decide +kernel
theorem dX5_laysPlan_68 : decode cX5_laysPlan 68 = .ok (.iload 8, 2) := by decide +kernel
theorem dX5_laysPlan_70 : decode cX5_laysPlan 70 = .ok (.ifCond .eq 11, 3) := by decide +kernel
theorem dX5_laysPlan_73 : decode cX5_laysPlan 73 = .ok (.iload 7, 2) := by decide +kernel
theorem dX5_laysPlan_75 : decode cX5_laysPlan 75 = .ok (.bipush 10, 2) := by decide +kernel
theorem dX5_laysPlan_77 : decode cX5_laysPlan 77 = .ok (.isub, 1) := by decide +kernel
theorem dX5_laysPlan_78 : decode cX5_laysPlan 78 = .ok (.goto 5, 3) := by decide +kernel
theorem dX5_laysPlan_81 : decode cX5_laysPlan 81 = .ok (.iload 7, 2) := by decide +kernel
theorem dX5_laysPlan_83 : decode cX5_laysPlan 83 = .ok (.iastore, 1) := by decide +kernel
theorem dX5_laysPlan_84 : decode cX5_laysPlan 84 = .ok (.iload 5, 2) := by decide +kernel
theorem dX5_laysPlan_86 : decode cX5_laysPlan 86 = .ok (.aload_n 0, 1) := by decide +kernel
theorem dX5_laysPlan_87 : decode cX5_laysPlan 87 = .ok (.getfield 31, 3) := by decide +kernel
theorem dX5_laysPlan_90 : decode cX5_laysPlan 90 = .ok (.iload 6, 2) := by decide +kernel
theorem dX5_laysPlan_92 : decode cX5_laysPlan 92 = .ok (.iaload, 1) := by decide +kernel
theorem dX5_laysPlan_93 : decode cX5_laysPlan 93 = .ok (.ifCond .ge 14, 3) := by decide +kernel
theorem dX5_laysPlan_96 : decode cX5_laysPlan 96 = .ok (.aload_n 0, 1) := by decide +kernel
theorem dX5_laysPlan_97 : decode cX5_laysPlan 97 = .ok (.getfield 31, 3) := by decide +kernel
theorem dX5_laysPlan_100 : decode cX5_laysPlan 100 = .ok (.iload 6, 2) := by decide +kernel
theorem dX5_laysPlan_102 : decode cX5_laysPlan 102 = .ok (.iaload, 1) := by decide +kernel
theorem dX5_laysPlan_103 : decode cX5_laysPlan 103 = .ok (.ineg, 1) := by decide +kernel
theorem dX5_laysPlan_104 : decode cX5_laysPlan 104 = .ok (.goto 10, 3) := by decide +kernel
theorem dX5_laysPlan_107 : decode cX5_laysPlan 107 = .ok (.aload_n 0, 1) := by decide +kernel
theorem dX5_laysPlan_108 : decode cX5_laysPlan 108 = .ok (.getfield 31, 3) := by decide +kernel
theorem dX5_laysPlan_111 : decode cX5_laysPlan 111 = .ok (.iload 6, 2) := by decide +kernel
theorem dX5_laysPlan_113 : decode cX5_laysPlan 113 = .ok (.iaload, 1) := by decide +kernel
theorem dX5_laysPlan_114 : decode cX5_laysPlan 114 = .ok (.iadd, 1) := by decide +kernel
theorem dX5_laysPlan_115 : decode cX5_laysPlan 115 = .ok (.istore 5, 2) := by decide +kernel
theorem dX5_laysPlan_117 : decode cX5_laysPlan 117 = .ok (.iinc 6 1, 3) := by decide +kernel
theorem dX5_laysPlan_120 : decode cX5_laysPlan 120 = .ok (.goto (-109), 3) := by decide +kernel
theorem dX5_laysPlan_123 : decode cX5_laysPlan 123 = .ok (.iload 5, 2) := by decide +kernel
theorem dX5_laysPlan_125 : decode cX5_laysPlan 125 = .ok (.ireturn, 1) := by decide +kernel
theorem dX5_doesTimes_0 : decode cX5_doesTimes 0 = .ok (.iload_n 1, 1) := by decide +kernel
theorem dX5_doesTimes_1 : decode cX5_doesTimes 1 = .ok (.i2l, 1) := by decide +kernel
theorem dX5_doesTimes_2 : decode cX5_doesTimes 2 = .ok (.lconst 0, 1) := by decide +kernel
theorem dX5_doesTimes_3 : decode cX5_doesTimes 3 = .ok (.ldc2_w 77, 3) := by decide +kernel
theorem dX5_doesTimes_6 : decode cX5_doesTimes 6 = .ok (.invokestatic 53, 3) := by decide +kernel
theorem dX5_doesTimes_9 : decode cX5_doesTimes 9 = .ok (.ifCond .eq 13, 3) := by decide +kernel
theorem dX5_doesTimes_12 : decode cX5_doesTimes 12 = .ok (.iload_n 2, 1) := by decide +kernel
theorem dX5_doesTimes_13 : decode cX5_doesTimes 13 = .ok (.i2l, 1) := by decide +kernel
theorem dX5_doesTimes_14 : decode cX5_doesTimes 14 = .ok (.lconst 0, 1) := by decide +kernel
theorem dX5_doesTimes_15 : decode cX5_doesTimes 15 = .ok (.lconst 1, 1) := by decide +kernel
theorem dX5_doesTimes_16 : decode cX5_doesTimes 16 = .ok (.invokestatic 53, 3) := by decide +kernel
theorem dX5_doesTimes_19 : decode cX5_doesTimes 19 = .ok (.ifCond .ne 6, 3) := by decide +kernel
theorem dX5_doesTimes_22 : decode cX5_doesTimes 22 = .ok (.bipush (-2), 2) := by decide +kernel
theorem dX5_doesTimes_24 : decode cX5_doesTimes 24 = .ok (.ireturn, 1) := by decide +kernel
theorem dX5_doesTimes_25 : decode cX5_doesTimes 25 = .ok (.aload_n 0, 1) := by decide +kernel
theorem dX5_doesTimes_26 : decode cX5_doesTimes 26 = .ok (.invokevirtual 79, 3) := by decide +kernel
theorem dX5_doesTimes_29 : decode cX5_doesTimes 29 = .ok (.istore_n 3, 1) := by decide +kernel
theorem dX5_doesTimes_30 : decode cX5_doesTimes 30 = .ok (.aload_n 0, 1) := by decide +kernel
theorem dX5_doesTimes_31 : decode cX5_doesTimes 31 = .ok (.iload_n 1, 1) := by decide +kernel
theorem dX5_doesTimes_32 : decode cX5_doesTimes 32 = .ok (.iload_n 2, 1) := by decide +kernel
theorem dX5_doesTimes_33 : decode cX5_doesTimes 33 = .ok (.invokevirtual 83, 3) := by decide +kernel
theorem dX5_doesTimes_36 : decode cX5_doesTimes 36 = .ok (.istore 4, 2) := by decide +kernel
theorem dX5_doesTimes_38 : decode cX5_doesTimes 38 = .ok (.aload_n 0, 1) := by decide +kernel
theorem dX5_doesTimes_39 : decode cX5_doesTimes 39 = .ok (.invokevirtual 67, 3) := by decide +kernel
theorem dX5_doesTimes_42 : decode cX5_doesTimes 42 = .ok (.iconst 0, 1) := by decide +kernel
theorem dX5_doesTimes_43 : decode cX5_doesTimes 43 = .ok (.istore 5, 2) := by decide +kernel
theorem dX5_doesTimes_45 : decode cX5_doesTimes 45 = .ok (.iload 5, 2) := by decide +kernel
theorem dX5_doesTimes_47 : decode cX5_doesTimes 47 = .ok (.bipush 6, 2) := by decide +kernel
theorem dX5_doesTimes_49 : decode cX5_doesTimes 49 = .ok (.iload_n 2, 1) := by decide +kernel
theorem dX5_doesTimes_50 : decode cX5_doesTimes 50 = .ok (.iadd, 1) := by decide +kernel
theorem dX5_doesTimes_51 : decode cX5_doesTimes 51 = .ok (.if_icmp .ge 68, 3) := by decide +kernel
theorem dX5_doesTimes_54 : decode cX5_doesTimes 54 = .ok (.aload_n 0, 1) := by decide +kernel
theorem dX5_doesTimes_55 : decode cX5_doesTimes 55 = .ok (.getfield 7, 3) := by decide +kernel
theorem dX5_doesTimes_58 : decode cX5_doesTimes 58 = .ok (.bipush 31, 2) := by decide +kernel
theorem dX5_doesTimes_60 : decode cX5_doesTimes 60 = .ok (.iload 5, 2) := by decide +kernel
theorem dX5_doesTimes_62 : decode cX5_doesTimes 62 = .ok (.iastore, 1) := by decide +kernel
theorem dX5_doesTimes_63 : decode cX5_doesTimes 63 = .ok (.aload_n 0, 1) := by decide +kernel
theorem dX5_doesTimes_64 : decode cX5_doesTimes 64 = .ok (.getfield 31, 3) := by decide +kernel
theorem dX5_doesTimes_67 : decode cX5_doesTimes 67 = .ok (.iload 5, 2) := by decide +kernel
theorem dX5_doesTimes_69 : decode cX5_doesTimes 69 = .ok (.iaload, 1) := by decide +kernel
theorem dX5_doesTimes_70 : decode cX5_doesTimes 70 = .ok (.ifCond .ge 7, 3) := by decide +kernel
theorem dX5_doesTimes_73 : decode cX5_doesTimes 73 = .ok (.iconst (-1), 1) := by decide +kernel
theorem dX5_doesTimes_74 : decode cX5_doesTimes 74 = .ok (.goto 4, 3) := by decide +kernel
theorem dX5_doesTimes_77 : decode cX5_doesTimes 77 = .ok (.iconst 1, 1) := by decide +kernel
theorem dX5_doesTimes_78 : decode cX5_doesTimes 78 = .ok (.istore 6, 2) := by decide +kernel
theorem dX5_doesTimes_80 : decode cX5_doesTimes 80 = .ok (.iload 6, 2) := by decide +kernel
theorem dX5_doesTimes_82 : decode cX5_doesTimes 82 = .ok (.aload_n 0, 1) := by decide +kernel
theorem dX5_doesTimes_83 : decode cX5_doesTimes 83 = .ok (.getfield 31, 3) := by decide +kernel
theorem dX5_doesTimes_86 : decode cX5_doesTimes 86 = .ok (.iload 5, 2) := by decide +kernel
theorem dX5_doesTimes_88 : decode cX5_doesTimes 88 = .ok (.iaload, 1) := by decide +kernel
theorem dX5_doesTimes_89 : decode cX5_doesTimes 89 = .ok (.imul, 1) := by decide +kernel
theorem dX5_doesTimes_90 : decode cX5_doesTimes 90 = .ok (.istore 7, 2) := by decide +kernel
theorem dX5_doesTimes_92 : decode cX5_doesTimes 92 = .ok (.iload 7, 2) := by decide +kernel
theorem dX5_doesTimes_94 : decode cX5_doesTimes 94 = .ok (.ifCond .le 19, 3) := by decide +kernel
theorem dX5_doesTimes_97 : decode cX5_doesTimes 97 = .ok (.aload_n 0, 1) := by decide +kernel
theorem dX5_doesTimes_98 : decode cX5_doesTimes 98 = .ok (.iload 6, 2) := by decide +kernel
theorem dX5_doesTimes_100 : decode cX5_doesTimes 100 = .ok (.iload 6, 2) := by decide +kernel
theorem dX5_doesTimes_102 : decode cX5_doesTimes 102 = .ok (.invokevirtual 70, 3) := by decide +kernel
theorem dX5_doesTimes_105 : decode cX5_doesTimes 105 = .ok (.istore 8, 2) := by decide +kernel
theorem dX5_doesTimes_107 : decode cX5_doesTimes 107 = .ok (.iinc 7 (-1), 3) := by decide +kernel
theorem dX5_doesTimes_110 : decode cX5_doesTimes 110 = .ok (.goto (-18), 3) := by decide +kernel
theorem dX5_doesTimes_113 : decode cX5_doesTimes 113 = .ok (.iinc 5 1, 3) := by decide +kernel
theorem dX5_doesTimes_116 : decode cX5_doesTimes 116 = .ok (.goto (-71), 3) := by decide +kernel
theorem dX5_doesTimes_119 : decode cX5_doesTimes 119 = .ok (.iload 4, 2) := by decide +kernel
theorem dX5_doesTimes_121 : decode cX5_doesTimes 121 = .ok (.ireturn, 1) := by decide +kernel
theorem dX5_downs0_0 : decode cX5_downs0 0 = .ok (.iconst 0, 1) := by decide +kernel
theorem dX5_downs0_1 : decode cX5_downs0 1 = .ok (.istore_n 1, 1) := by decide +kernel
theorem dX5_downs0_2 : decode cX5_downs0 2 = .ok (.iconst 0, 1) := by decide +kernel
theorem dX5_downs0_3 : decode cX5_downs0 3 = .ok (.istore_n 2, 1) := by decide +kernel
theorem dX5_downs0_4 : decode cX5_downs0 4 = .ok (.iload_n 2, 1) := by decide +kernel
theorem dX5_downs0_5 : decode cX5_downs0 5 = .ok (.bipush 20, 2) := by decide +kernel
theorem dX5_downs0_7 : decode cX5_downs0 7 = .ok (.if_icmp .ge 20, 3) := by decide +kernel
theorem dX5_downs0_10 : decode cX5_downs0 10 = .ok (.iload_n 1, 1) := by decide +kernel
theorem dX5_downs0_11 : decode cX5_downs0 11 = .ok (.ifCond .ne 16, 3) := by decide +kernel
theorem dX5_downs0_14 : decode cX5_downs0 14 = .ok (.aload_n 0, 1) := by decide +kernel
theorem dX5_downs0_15 : decode cX5_downs0 15 = .ok (.iconst (-1), 1) := by decide +kernel
theorem dX5_downs0_16 : decode cX5_downs0 16 = .ok (.iconst 1, 1) := by decide +kernel
theorem dX5_downs0_17 : decode cX5_downs0 17 = .ok (.invokevirtual 70, 3) := by decide +kernel
theorem dX5_downs0_20 : decode cX5_downs0 20 = .ok (.istore_n 1, 1) := by decide +kernel
theorem dX5_downs0_21 : decode cX5_downs0 21 = .ok (.iinc 2 1, 3) := by decide +kernel
theorem dX5_downs0_24 : decode cX5_downs0 24 = .ok (.goto (-20), 3) := by decide +kernel
theorem dX5_downs0_27 : decode cX5_downs0 27 = .ok (.iload_n 1, 1) := by decide +kernel
theorem dX5_downs0_28 : decode cX5_downs0 28 = .ok (.ireturn, 1) := by decide +kernel
theorem dX5_doesDivide_0 : decode cX5_doesDivide 0 = .ok (.aload_n 0, 1) := by decide +kernel
theorem dX5_doesDivide_1 : decode cX5_doesDivide 1 = .ok (.invokevirtual 67, 3) := by decide +kernel
theorem dX5_doesDivide_4 : decode cX5_doesDivide 4 = .ok (.iconst 0, 1) := by decide +kernel
theorem dX5_doesDivide_5 : decode cX5_doesDivide 5 = .ok (.istore_n 1, 1) := by decide +kernel
theorem dX5_doesDivide_6 : decode cX5_doesDivide 6 = .ok (.iconst 0, 1) := by decide +kernel
theorem dX5_doesDivide_7 : decode cX5_doesDivide 7 = .ok (.istore_n 2, 1) := by decide +kernel
theorem dX5_doesDivide_8 : decode cX5_doesDivide 8 = .ok (.iload_n 2, 1) := by decide +kernel
theorem dX5_doesDivide_9 : decode cX5_doesDivide 9 = .ok (.bipush 6, 2) := by decide +kernel
theorem dX5_doesDivide_11 : decode cX5_doesDivide 11 = .ok (.if_icmp .ge 18, 3) := by decide +kernel
theorem dX5_doesDivide_14 : decode cX5_doesDivide 14 = .ok (.iload_n 1, 1) := by decide +kernel
theorem dX5_doesDivide_15 : decode cX5_doesDivide 15 = .ok (.aload_n 0, 1) := by decide +kernel
theorem dX5_doesDivide_16 : decode cX5_doesDivide 16 = .ok (.getfield 25, 3) := by decide +kernel
theorem dX5_doesDivide_19 : decode cX5_doesDivide 19 = .ok (.iload_n 2, 1) := by decide +kernel
theorem dX5_doesDivide_20 : decode cX5_doesDivide 20 = .ok (.iaload, 1) := by decide +kernel
theorem dX5_doesDivide_21 : decode cX5_doesDivide 21 = .ok (.iadd, 1) := by decide +kernel
theorem dX5_doesDivide_22 : decode cX5_doesDivide 22 = .ok (.istore_n 1, 1) := by decide +kernel
theorem dX5_doesDivide_23 : decode cX5_doesDivide 23 = .ok (.iinc 2 1, 3) := by decide +kernel
theorem dX5_doesDivide_26 : decode cX5_doesDivide 26 = .ok (.goto (-18), 3) := by decide +kernel
theorem dX5_doesDivide_29 : decode cX5_doesDivide 29 = .ok (.iload_n 1, 1) := by decide +kernel
theorem dX5_doesDivide_30 : decode cX5_doesDivide 30 = .ok (.ifCond .ne 6, 3) := by decide +kernel
theorem dX5_doesDivide_33 : decode cX5_doesDivide 33 = .ok (.bipush (-3), 2) := by decide +kernel
theorem dX5_doesDivide_35 : decode cX5_doesDivide 35 = .ok (.ireturn, 1) := by decide +kernel
theorem dX5_doesDivide_36 : decode cX5_doesDivide 36 = .ok (.aload_n 0, 1) := by decide +kernel
theorem dX5_doesDivide_37 : decode cX5_doesDivide 37 = .ok (.getfield 7, 3) := by decide +kernel
theorem dX5_doesDivide_40 : decode cX5_doesDivide 40 = .ok (.bipush 34, 2) := by decide +kernel
theorem dX5_doesDivide_42 : decode cX5_doesDivide 42 = .ok (.iaload, 1) := by decide +kernel
theorem dX5_doesDivide_43 : decode cX5_doesDivide 43 = .ok (.istore_n 2, 1) := by decide +kernel
theorem dX5_doesDivide_44 : decode cX5_doesDivide 44 = .ok (.aload_n 0, 1) := by decide +kernel
theorem dX5_doesDivide_45 : decode cX5_doesDivide 45 = .ok (.invokevirtual 74, 3) := by decide +kernel
theorem dX5_doesDivide_48 : decode cX5_doesDivide 48 = .ok (.bipush 6, 2) := by decide +kernel
theorem dX5_doesDivide_50 : decode cX5_doesDivide 50 = .ok (.istore_n 3, 1) := by decide +kernel
theorem dX5_doesDivide_51 : decode cX5_doesDivide 51 = .ok (.iload_n 3, 1) := by decide +kernel
theorem dX5_doesDivide_52 : decode cX5_doesDivide 52 = .ok (.ifCond .lt 35, 3) := by decide +kernel
theorem dX5_doesDivide_55 : decode cX5_doesDivide 55 = .ok (.aload_n 0, 1) := by decide +kernel
theorem dX5_doesDivide_56 : decode cX5_doesDivide 56 = .ok (.getfield 7, 3) := by decide +kernel
theorem dX5_doesDivide_59 : decode cX5_doesDivide 59 = .ok (.bipush 31, 2) := by decide +kernel
theorem dX5_doesDivide_61 : decode cX5_doesDivide 61 = .ok (.iload_n 3, 1) := by decide +kernel
theorem dX5_doesDivide_62 : decode cX5_doesDivide 62 = .ok (.iastore, 1) := by decide +kernel
theorem dX5_doesDivide_63 : decode cX5_doesDivide 63 = .ok (.aload_n 0, 1) := by decide +kernel
theorem dX5_doesDivide_64 : decode cX5_doesDivide 64 = .ok (.invokevirtual 86, 3) := by decide +kernel
theorem dX5_doesDivide_67 : decode cX5_doesDivide 67 = .ok (.ifCond .ne 6, 3) := by decide +kernel
theorem dX5_doesDivide_70 : decode cX5_doesDivide 70 = .ok (.bipush (-3), 2) := by decide +kernel
theorem dX5_doesDivide_72 : decode cX5_doesDivide 72 = .ok (.ireturn, 1) := by decide +kernel
theorem dX5_doesDivide_73 : decode cX5_doesDivide 73 = .ok (.aload_n 0, 1) := by decide +kernel
theorem dX5_doesDivide_74 : decode cX5_doesDivide 74 = .ok (.iconst 1, 1) := by decide +kernel
theorem dX5_doesDivide_75 : decode cX5_doesDivide 75 = .ok (.iconst (-1), 1) := by decide +kernel
theorem dX5_doesDivide_76 : decode cX5_doesDivide 76 = .ok (.invokevirtual 70, 3) := by decide +kernel
theorem dX5_doesDivide_79 : decode cX5_doesDivide 79 = .ok (.istore 4, 2) := by decide +kernel
theorem dX5_doesDivide_81 : decode cX5_doesDivide 81 = .ok (.iinc 3 (-1), 3) := by decide +kernel
theorem dX5_doesDivide_84 : decode cX5_doesDivide 84 = .ok (.goto (-33), 3) := by decide +kernel
theorem dX5_doesDivide_87 : decode cX5_doesDivide 87 = .ok (.aload_n 0, 1) := by decide +kernel
theorem dX5_doesDivide_88 : decode cX5_doesDivide 88 = .ok (.getfield 7, 3) := by decide +kernel
theorem dX5_doesDivide_91 : decode cX5_doesDivide 91 = .ok (.bipush 34, 2) := by decide +kernel
theorem dX5_doesDivide_93 : decode cX5_doesDivide 93 = .ok (.iaload, 1) := by decide +kernel
theorem dX5_doesDivide_94 : decode cX5_doesDivide 94 = .ok (.iload_n 2, 1) := by decide +kernel
theorem dX5_doesDivide_95 : decode cX5_doesDivide 95 = .ok (.isub, 1) := by decide +kernel
theorem dX5_doesDivide_96 : decode cX5_doesDivide 96 = .ok (.ireturn, 1) := by decide +kernel
theorem dX5_change_0 : decode cX5_change 0 = .ok (.aload_n 0, 1) := by decide +kernel
theorem dX5_change_1 : decode cX5_change 1 = .ok (.getfield 7, 3) := by decide +kernel
theorem dX5_change_4 : decode cX5_change 4 = .ok (.iload_n 1, 1) := by decide +kernel
theorem dX5_change_5 : decode cX5_change 5 = .ok (.iaload, 1) := by decide +kernel
theorem dX5_change_6 : decode cX5_change 6 = .ok (.istore_n 3, 1) := by decide +kernel
theorem dX5_change_7 : decode cX5_change 7 = .ok (.aload_n 0, 1) := by decide +kernel
theorem dX5_change_8 : decode cX5_change 8 = .ok (.getfield 7, 3) := by decide +kernel
theorem dX5_change_11 : decode cX5_change 11 = .ok (.iload_n 1, 1) := by decide +kernel
theorem dX5_change_12 : decode cX5_change 12 = .ok (.iload_n 2, 1) := by decide +kernel
theorem dX5_change_13 : decode cX5_change 13 = .ok (.iastore, 1) := by decide +kernel
theorem dX5_change_14 : decode cX5_change 14 = .ok (.iload_n 3, 1) := by decide +kernel
theorem dX5_change_15 : decode cX5_change 15 = .ok (.ireturn, 1) := by decide +kernel
theorem dX5_putDigit_0 : decode cX5_putDigit 0 = .ok (.iload_n 1, 1) := by decide +kernel
theorem dX5_putDigit_1 : decode cX5_putDigit 1 = .ok (.invokestatic 90, 3) := by decide +kernel
theorem dX5_putDigit_4 : decode cX5_putDigit 4 = .ok (.ifCond .eq 26, 3) := by decide +kernel
theorem dX5_putDigit_7 : decode cX5_putDigit 7 = .ok (.iload_n 2, 1) := by decide +kernel
theorem dX5_putDigit_8 : decode cX5_putDigit 8 = .ok (.i2l, 1) := by decide +kernel
theorem dX5_putDigit_9 : decode cX5_putDigit 9 = .ok (.lconst 0, 1) := by decide +kernel
theorem dX5_putDigit_10 : decode cX5_putDigit 10 = .ok (.ldc2_w 94, 3) := by decide +kernel
theorem dX5_putDigit_13 : decode cX5_putDigit 13 = .ok (.invokestatic 53, 3) := by decide +kernel
theorem dX5_putDigit_16 : decode cX5_putDigit 16 = .ok (.ifCond .eq 14, 3) := by decide +kernel
theorem dX5_putDigit_19 : decode cX5_putDigit 19 = .ok (.aload_n 0, 1) := by decide +kernel
theorem dX5_putDigit_20 : decode cX5_putDigit 20 = .ok (.iconst 0, 1) := by decide +kernel
theorem dX5_putDigit_21 : decode cX5_putDigit 21 = .ok (.iload_n 1, 1) := by decide +kernel
theorem dX5_putDigit_22 : decode cX5_putDigit 22 = .ok (.iadd, 1) := by decide +kernel
theorem dX5_putDigit_23 : decode cX5_putDigit 23 = .ok (.iload_n 2, 1) := by decide +kernel
theorem dX5_putDigit_24 : decode cX5_putDigit 24 = .ok (.invokevirtual 96, 3) := by decide +kernel
theorem dX5_putDigit_27 : decode cX5_putDigit 27 = .ok (.goto 5, 3) := by decide +kernel
theorem dX5_putDigit_30 : decode cX5_putDigit 30 = .ok (.bipush (-2), 2) := by decide +kernel
theorem dX5_putDigit_32 : decode cX5_putDigit 32 = .ok (.ireturn, 1) := by decide +kernel
theorem dX5_putShift_0 : decode cX5_putShift 0 = .ok (.iload_n 1, 1) := by decide +kernel
theorem dX5_putShift_1 : decode cX5_putShift 1 = .ok (.i2l, 1) := by decide +kernel
theorem dX5_putShift_2 : decode cX5_putShift 2 = .ok (.lconst 0, 1) := by decide +kernel
theorem dX5_putShift_3 : decode cX5_putShift 3 = .ok (.ldc2_w 99, 3) := by decide +kernel
theorem dX5_putShift_6 : decode cX5_putShift 6 = .ok (.invokestatic 53, 3) := by decide +kernel
theorem dX5_putShift_9 : decode cX5_putShift 9 = .ok (.ifCond .eq 13, 3) := by decide +kernel
theorem dX5_putShift_12 : decode cX5_putShift 12 = .ok (.aload_n 0, 1) := by decide +kernel
theorem dX5_putShift_13 : decode cX5_putShift 13 = .ok (.bipush 31, 2) := by decide +kernel
theorem dX5_putShift_15 : decode cX5_putShift 15 = .ok (.iload_n 1, 1) := by decide +kernel
theorem dX5_putShift_16 : decode cX5_putShift 16 = .ok (.invokevirtual 96, 3) := by decide +kernel
theorem dX5_putShift_19 : decode cX5_putShift 19 = .ok (.goto 5, 3) := by decide +kernel
theorem dX5_putShift_22 : decode cX5_putShift 22 = .ok (.bipush (-2), 2) := by decide +kernel
theorem dX5_putShift_24 : decode cX5_putShift 24 = .ok (.ireturn, 1) := by decide +kernel
theorem dX5_putReach_0 : decode cX5_putReach 0 = .ok (.iload_n 1, 1) := by decide +kernel
theorem dX5_putReach_1 : decode cX5_putReach 1 = .ok (.i2l, 1) := by decide +kernel
theorem dX5_putReach_2 : decode cX5_putReach 2 = .ok (.lconst 0, 1) := by decide +kernel
theorem dX5_putReach_3 : decode cX5_putReach 3 = .ok (.ldc2_w 101, 3) := by decide +kernel
theorem dX5_putReach_6 : decode cX5_putReach 6 = .ok (.invokestatic 53, 3) := by decide +kernel
theorem dX5_putReach_9 : decode cX5_putReach 9 = .ok (.ifCond .eq 13, 3) := by decide +kernel
theorem dX5_putReach_12 : decode cX5_putReach 12 = .ok (.aload_n 0, 1) := by decide +kernel
theorem dX5_putReach_13 : decode cX5_putReach 13 = .ok (.bipush 32, 2) := by decide +kernel
theorem dX5_putReach_15 : decode cX5_putReach 15 = .ok (.iload_n 1, 1) := by decide +kernel
theorem dX5_putReach_16 : decode cX5_putReach 16 = .ok (.invokevirtual 96, 3) := by decide +kernel
theorem dX5_putReach_19 : decode cX5_putReach 19 = .ok (.goto 5, 3) := by decide +kernel
theorem dX5_putReach_22 : decode cX5_putReach 22 = .ok (.bipush (-2), 2) := by decide +kernel
theorem dX5_putReach_24 : decode cX5_putReach 24 = .ok (.ireturn, 1) := by decide +kernel
theorem dX5_wornMany_0 : decode cX5_wornMany 0 = .ok (.iconst 0, 1) := by decide +kernel
theorem dX5_wornMany_1 : decode cX5_wornMany 1 = .ok (.istore_n 1, 1) := by decide +kernel
theorem dX5_wornMany_2 : decode cX5_wornMany 2 = .ok (.iconst 1, 1) := by decide +kernel
theorem dX5_wornMany_3 : decode cX5_wornMany 3 = .ok (.istore_n 2, 1) := by decide +kernel
theorem dX5_wornMany_4 : decode cX5_wornMany 4 = .ok (.iload_n 2, 1) := by decide +kernel
theorem dX5_wornMany_5 : decode cX5_wornMany 5 = .ok (.bipush 10, 2) := by decide +kernel
theorem dX5_wornMany_7 : decode cX5_wornMany 7 = .ok (.if_icmp .ge 17, 3) := by decide +kernel
theorem dX5_wornMany_10 : decode cX5_wornMany 10 = .ok (.iload_n 1, 1) := by decide +kernel
theorem dX5_wornMany_11 : decode cX5_wornMany 11 = .ok (.iload_n 0, 1) := by decide +kernel
theorem dX5_wornMany_12 : decode cX5_wornMany 12 = .ok (.iload_n 2, 1) := by decide +kernel
theorem dX5_wornMany_13 : decode cX5_wornMany 13 = .ok (.ishr, 1) := by decide +kernel
theorem dX5_wornMany_14 : decode cX5_wornMany 14 = .ok (.iconst 1, 1) := by decide +kernel
theorem dX5_wornMany_15 : decode cX5_wornMany 15 = .ok (.iand, 1) := by decide +kernel
theorem dX5_wornMany_16 : decode cX5_wornMany 16 = .ok (.iadd, 1) := by decide +kernel
theorem dX5_wornMany_17 : decode cX5_wornMany 17 = .ok (.istore_n 1, 1) := by decide +kernel
theorem dX5_wornMany_18 : decode cX5_wornMany 18 = .ok (.iinc 2 1, 3) := by decide +kernel
theorem dX5_wornMany_21 : decode cX5_wornMany 21 = .ok (.goto (-17), 3) := by decide +kernel
theorem dX5_wornMany_24 : decode cX5_wornMany 24 = .ok (.iload_n 1, 1) := by decide +kernel
theorem dX5_wornMany_25 : decode cX5_wornMany 25 = .ok (.ireturn, 1) := by decide +kernel
theorem dX5_putWorn_0 : decode cX5_putWorn 0 = .ok (.iload_n 1, 1) := by decide +kernel
theorem dX5_putWorn_1 : decode cX5_putWorn 1 = .ok (.invokestatic 90, 3) := by decide +kernel
theorem dX5_putWorn_4 : decode cX5_putWorn 4 = .ok (.ifCond .eq 15, 3) := by decide +kernel
theorem dX5_putWorn_7 : decode cX5_putWorn 7 = .ok (.iload_n 2, 1) := by decide +kernel
theorem dX5_putWorn_8 : decode cX5_putWorn 8 = .ok (.i2l, 1) := by decide +kernel
theorem dX5_putWorn_9 : decode cX5_putWorn 9 = .ok (.lconst 1, 1) := by decide +kernel
theorem dX5_putWorn_10 : decode cX5_putWorn 10 = .ok (.ldc2_w 94, 3) := by decide +kernel
theorem dX5_putWorn_13 : decode cX5_putWorn 13 = .ok (.invokestatic 53, 3) := by decide +kernel
theorem dX5_putWorn_16 : decode cX5_putWorn 16 = .ok (.ifCond .ne 6, 3) := by decide +kernel
theorem dX5_putWorn_19 : decode cX5_putWorn 19 = .ok (.bipush (-2), 2) := by decide +kernel
theorem dX5_putWorn_21 : decode cX5_putWorn 21 = .ok (.ireturn, 1) := by decide +kernel
theorem dX5_putWorn_22 : decode cX5_putWorn 22 = .ok (.aload_n 0, 1) := by decide +kernel
theorem dX5_putWorn_23 : decode cX5_putWorn 23 = .ok (.getfield 7, 3) := by decide +kernel
theorem dX5_putWorn_26 : decode cX5_putWorn 26 = .ok (.bipush 6, 2) := by decide +kernel
theorem dX5_putWorn_28 : decode cX5_putWorn 28 = .ok (.iload_n 1, 1) := by decide +kernel
theorem dX5_putWorn_29 : decode cX5_putWorn 29 = .ok (.iadd, 1) := by decide +kernel
theorem dX5_putWorn_30 : decode cX5_putWorn 30 = .ok (.dup2, 1) := by decide +kernel
theorem dX5_putWorn_31 : decode cX5_putWorn 31 = .ok (.iaload, 1) := by decide +kernel
theorem dX5_putWorn_32 : decode cX5_putWorn 32 = .ok (.iconst 1, 1) := by decide +kernel
theorem dX5_putWorn_33 : decode cX5_putWorn 33 = .ok (.iload_n 2, 1) := by decide +kernel
theorem dX5_putWorn_34 : decode cX5_putWorn 34 = .ok (.ishl, 1) := by decide +kernel
theorem dX5_putWorn_35 : decode cX5_putWorn 35 = .ok (.ixor, 1) := by decide +kernel
theorem dX5_putWorn_36 : decode cX5_putWorn 36 = .ok (.iastore, 1) := by decide +kernel
theorem dX5_putWorn_37 : decode cX5_putWorn 37 = .ok (.aload_n 0, 1) := by decide +kernel
theorem dX5_putWorn_38 : decode cX5_putWorn 38 = .ok (.getfield 7, 3) := by decide +kernel
theorem dX5_putWorn_41 : decode cX5_putWorn 41 = .ok (.bipush 6, 2) := by decide +kernel
theorem dX5_putWorn_43 : decode cX5_putWorn 43 = .ok (.iload_n 1, 1) := by decide +kernel
theorem dX5_putWorn_44 : decode cX5_putWorn 44 = .ok (.iadd, 1) := by decide +kernel
theorem dX5_putWorn_45 : decode cX5_putWorn 45 = .ok (.iaload, 1) := by decide +kernel
theorem dX5_putWorn_46 : decode cX5_putWorn 46 = .ok (.invokestatic 103, 3) := by decide +kernel
theorem dX5_putWorn_49 : decode cX5_putWorn 49 = .ok (.ireturn, 1) := by decide +kernel
theorem dX5_number_0 : decode cX5_number 0 = .ok (.iconst 0, 1) := by decide +kernel
theorem dX5_number_1 : decode cX5_number 1 = .ok (.istore_n 3, 1) := by decide +kernel
theorem dX5_number_2 : decode cX5_number 2 = .ok (.iload_n 2, 1) := by decide +kernel
theorem dX5_number_3 : decode cX5_number 3 = .ok (.iconst 1, 1) := by decide +kernel
theorem dX5_number_4 : decode cX5_number 4 = .ok (.isub, 1) := by decide +kernel
theorem dX5_number_5 : decode cX5_number 5 = .ok (.istore 4, 2) := by decide +kernel
theorem dX5_number_7 : decode cX5_number 7 = .ok (.iload 4, 2) := by decide +kernel
theorem dX5_number_9 : decode cX5_number 9 = .ok (.ifCond .lt 21, 3) := by decide +kernel
theorem dX5_number_12 : decode cX5_number 12 = .ok (.bipush 10, 2) := by decide +kernel
theorem dX5_number_14 : decode cX5_number 14 = .ok (.iload_n 3, 1) := by decide +kernel
theorem dX5_number_15 : decode cX5_number 15 = .ok (.imul, 1) := by decide +kernel
theorem dX5_number_16 : decode cX5_number 16 = .ok (.aload_n 0, 1) := by decide +kernel
theorem dX5_number_17 : decode cX5_number 17 = .ok (.iload_n 1, 1) := by decide +kernel
theorem dX5_number_18 : decode cX5_number 18 = .ok (.iload 4, 2) := by decide +kernel
theorem dX5_number_20 : decode cX5_number 20 = .ok (.iadd, 1) := by decide +kernel
theorem dX5_number_21 : decode cX5_number 21 = .ok (.iaload, 1) := by decide +kernel
theorem dX5_number_22 : decode cX5_number 22 = .ok (.iadd, 1) := by decide +kernel
theorem dX5_number_23 : decode cX5_number 23 = .ok (.istore_n 3, 1) := by decide +kernel
theorem dX5_number_24 : decode cX5_number 24 = .ok (.iinc 4 (-1), 3) := by decide +kernel
theorem dX5_number_27 : decode cX5_number 27 = .ok (.goto (-20), 3) := by decide +kernel
theorem dX5_number_30 : decode cX5_number 30 = .ok (.iload_n 3, 1) := by decide +kernel
theorem dX5_number_31 : decode cX5_number 31 = .ok (.ireturn, 1) := by decide +kernel
theorem dX5_putInput_0 : decode cX5_putInput 0 = .ok (.iload_n 1, 1) := by decide +kernel
theorem dX5_putInput_1 : decode cX5_putInput 1 = .ok (.i2l, 1) := by decide +kernel
theorem dX5_putInput_2 : decode cX5_putInput 2 = .ok (.lconst 0, 1) := by decide +kernel
theorem dX5_putInput_3 : decode cX5_putInput 3 = .ok (.ldc2_w 77, 3) := by decide +kernel
theorem dX5_putInput_6 : decode cX5_putInput 6 = .ok (.invokestatic 53, 3) := by decide +kernel
theorem dX5_putInput_9 : decode cX5_putInput 9 = .ok (.ifCond .ne 6, 3) := by decide +kernel
theorem dX5_putInput_12 : decode cX5_putInput 12 = .ok (.bipush (-2), 2) := by decide +kernel
theorem dX5_putInput_14 : decode cX5_putInput 14 = .ok (.ireturn, 1) := by decide +kernel
theorem dX5_putInput_15 : decode cX5_putInput 15 = .ok (.aload_n 0, 1) := by decide +kernel
theorem dX5_putInput_16 : decode cX5_putInput 16 = .ok (.getfield 7, 3) := by decide +kernel
theorem dX5_putInput_19 : decode cX5_putInput 19 = .ok (.iconst 0, 1) := by decide +kernel
theorem dX5_putInput_20 : decode cX5_putInput 20 = .ok (.bipush 6, 2) := by decide +kernel
theorem dX5_putInput_22 : decode cX5_putInput 22 = .ok (.invokestatic 106, 3) := by decide +kernel
theorem dX5_putInput_25 : decode cX5_putInput 25 = .ok (.istore_n 2, 1) := by decide +kernel
theorem dX5_putInput_26 : decode cX5_putInput 26 = .ok (.iload_n 1, 1) := by decide +kernel
theorem dX5_putInput_27 : decode cX5_putInput 27 = .ok (.istore_n 3, 1) := by decide +kernel
theorem dX5_putInput_28 : decode cX5_putInput 28 = .ok (.iconst 0, 1) := by decide +kernel
theorem dX5_putInput_29 : decode cX5_putInput 29 = .ok (.istore 4, 2) := by decide +kernel
theorem dX5_putInput_31 : decode cX5_putInput 31 = .ok (.iload 4, 2) := by decide +kernel
theorem dX5_putInput_33 : decode cX5_putInput 33 = .ok (.bipush 6, 2) := by decide +kernel
theorem dX5_putInput_35 : decode cX5_putInput 35 = .ok (.if_icmp .ge 27, 3) := by decide +kernel
theorem dX5_putInput_38 : decode cX5_putInput 38 = .ok (.aload_n 0, 1) := by decide +kernel
theorem dX5_putInput_39 : decode cX5_putInput 39 = .ok (.getfield 7, 3) := by decide +kernel
theorem dX5_putInput_42 : decode cX5_putInput 42 = .ok (.iconst 0, 1) := by decide +kernel
theorem dX5_putInput_43 : decode cX5_putInput 43 = .ok (.iload 4, 2) := by decide +kernel
theorem dX5_putInput_45 : decode cX5_putInput 45 = .ok (.iadd, 1) := by decide +kernel
theorem dX5_putInput_46 : decode cX5_putInput 46 = .ok (.iload_n 3, 1) := by decide +kernel
theorem dX5_putInput_47 : decode cX5_putInput 47 = .ok (.bipush 10, 2) := by decide +kernel
theorem dX5_putInput_49 : decode cX5_putInput 49 = .ok (.irem, 1) := by decide +kernel
theorem dX5_putInput_50 : decode cX5_putInput 50 = .ok (.iastore, 1) := by decide +kernel
theorem dX5_putInput_51 : decode cX5_putInput 51 = .ok (.iload_n 3, 1) := by decide +kernel
theorem dX5_putInput_52 : decode cX5_putInput 52 = .ok (.bipush 10, 2) := by decide +kernel
theorem dX5_putInput_54 : decode cX5_putInput 54 = .ok (.idiv, 1) := by decide +kernel
theorem dX5_putInput_55 : decode cX5_putInput 55 = .ok (.istore_n 3, 1) := by decide +kernel
theorem dX5_putInput_56 : decode cX5_putInput 56 = .ok (.iinc 4 1, 3) := by decide +kernel
theorem dX5_putInput_59 : decode cX5_putInput 59 = .ok (.goto (-28), 3) := by decide +kernel
theorem dX5_putInput_62 : decode cX5_putInput 62 = .ok (.iload_n 2, 1) := by decide +kernel
theorem dX5_putInput_63 : decode cX5_putInput 63 = .ok (.ireturn, 1) := by decide +kernel
theorem dX5_putWheels_0 : decode cX5_putWheels 0 = .ok (.lload_n 1, 1) := by decide +kernel
theorem dX5_putWheels_1 : decode cX5_putWheels 1 = .ok (.lconst 0, 1) := by decide +kernel
theorem dX5_putWheels_2 : decode cX5_putWheels 2 = .ok (.ldc2_w 110, 3) := by decide +kernel
theorem dX5_putWheels_5 : decode cX5_putWheels 5 = .ok (.invokestatic 53, 3) := by decide +kernel
theorem dX5_putWheels_8 : decode cX5_putWheels 8 = .ok (.ifCond .ne 6, 3) := by decide +kernel
theorem dX5_putWheels_11 : decode cX5_putWheels 11 = .ok (.bipush (-2), 2) := by decide +kernel
theorem dX5_putWheels_13 : decode cX5_putWheels 13 = .ok (.ireturn, 1) := by decide +kernel
theorem dX5_putWheels_14 : decode cX5_putWheels 14 = .ok (.lload_n 1, 1) := by decide +kernel
theorem dX5_putWheels_15 : decode cX5_putWheels 15 = .ok (.lstore_n 3, 1) := by decide +kernel
theorem dX5_putWheels_16 : decode cX5_putWheels 16 = .ok (.iconst 0, 1) := by decide +kernel
theorem dX5_putWheels_17 : decode cX5_putWheels 17 = .ok (.istore 5, 2) := by decide +kernel
theorem dX5_putWheels_19 : decode cX5_putWheels 19 = .ok (.iconst 0, 1) := by decide +kernel
theorem dX5_putWheels_20 : decode cX5_putWheels 20 = .ok (.istore 6, 2) := by decide +kernel
theorem dX5_putWheels_22 : decode cX5_putWheels 22 = .ok (.iload 6, 2) := by decide +kernel
theorem dX5_putWheels_24 : decode cX5_putWheels 24 = .ok (.bipush 12, 2) := by decide +kernel
theorem dX5_putWheels_26 : decode cX5_putWheels 26 = .ok (.if_icmp .ge 60, 3) := by decide +kernel
theorem dX5_putWheels_29 : decode cX5_putWheels 29 = .ok (.lload_n 3, 1) := by decide +kernel
theorem dX5_putWheels_30 : decode cX5_putWheels 30 = .ok (.ldc2_w 112, 3) := by decide +kernel
theorem dX5_putWheels_33 : decode cX5_putWheels 33 = .ok (.lrem, 1) := by decide +kernel
theorem dX5_putWheels_34 : decode cX5_putWheels 34 = .ok (.l2i, 1) := by decide +kernel
theorem dX5_putWheels_35 : decode cX5_putWheels 35 = .ok (.istore 7, 2) := by decide +kernel
theorem dX5_putWheels_37 : decode cX5_putWheels 37 = .ok (.iload 5, 2) := by decide +kernel
theorem dX5_putWheels_39 : decode cX5_putWheels 39 = .ok (.aload_n 0, 1) := by decide +kernel
theorem dX5_putWheels_40 : decode cX5_putWheels 40 = .ok (.getfield 7, 3) := by decide +kernel
theorem dX5_putWheels_43 : decode cX5_putWheels 43 = .ok (.bipush 12, 2) := by decide +kernel
theorem dX5_putWheels_45 : decode cX5_putWheels 45 = .ok (.iload 6, 2) := by decide +kernel
theorem dX5_putWheels_47 : decode cX5_putWheels 47 = .ok (.iadd, 1) := by decide +kernel
theorem dX5_putWheels_48 : decode cX5_putWheels 48 = .ok (.iaload, 1) := by decide +kernel
theorem dX5_putWheels_49 : decode cX5_putWheels 49 = .ok (.iload 7, 2) := by decide +kernel
theorem dX5_putWheels_51 : decode cX5_putWheels 51 = .ok (.if_icmp .eq 7, 3) := by decide +kernel
theorem dX5_putWheels_54 : decode cX5_putWheels 54 = .ok (.iconst 1, 1) := by decide +kernel
theorem dX5_putWheels_55 : decode cX5_putWheels 55 = .ok (.goto 4, 3) := by decide +kernel
theorem dX5_putWheels_58 : decode cX5_putWheels 58 = .ok (.iconst 0, 1) := by decide +kernel
theorem dX5_putWheels_59 : decode cX5_putWheels 59 = .ok (.iadd, 1) := by decide +kernel
theorem dX5_putWheels_60 : decode cX5_putWheels 60 = .ok (.istore 5, 2) := by decide +kernel
theorem dX5_putWheels_62 : decode cX5_putWheels 62 = .ok (.aload_n 0, 1) := by decide +kernel
theorem dX5_putWheels_63 : decode cX5_putWheels 63 = .ok (.getfield 7, 3) := by decide +kernel
theorem dX5_putWheels_66 : decode cX5_putWheels 66 = .ok (.bipush 12, 2) := by decide +kernel
theorem dX5_putWheels_68 : decode cX5_putWheels 68 = .ok (.iload 6, 2) := by decide +kernel
theorem dX5_putWheels_70 : decode cX5_putWheels 70 = .ok (.iadd, 1) := by decide +kernel
theorem dX5_putWheels_71 : decode cX5_putWheels 71 = .ok (.iload 7, 2) := by decide +kernel
theorem dX5_putWheels_73 : decode cX5_putWheels 73 = .ok (.iastore, 1) := by decide +kernel
theorem dX5_putWheels_74 : decode cX5_putWheels 74 = .ok (.lload_n 3, 1) := by decide +kernel
theorem dX5_putWheels_75 : decode cX5_putWheels 75 = .ok (.ldc2_w 112, 3) := by decide +kernel
theorem dX5_putWheels_78 : decode cX5_putWheels 78 = .ok (.ldiv, 1) := by decide +kernel
theorem dX5_putWheels_79 : decode cX5_putWheels 79 = .ok (.lstore_n 3, 1) := by decide +kernel
theorem dX5_putWheels_80 : decode cX5_putWheels 80 = .ok (.iinc 6 1, 3) := by decide +kernel
theorem dX5_putWheels_83 : decode cX5_putWheels 83 = .ok (.goto (-61), 3) := by decide +kernel
theorem dX5_putWheels_86 : decode cX5_putWheels 86 = .ok (.iload 5, 2) := by decide +kernel
theorem dX5_putWheels_88 : decode cX5_putWheels 88 = .ok (.ireturn, 1) := by decide +kernel
theorem dX5_sets_0 : decode cX5_sets 0 = .ok (.aload_n 0, 1) := by decide +kernel
theorem dX5_sets_1 : decode cX5_sets 1 = .ok (.invokevirtual 114, 3) := by decide +kernel
theorem dX5_sets_4 : decode cX5_sets 4 = .ok (.aload_n 0, 1) := by decide +kernel
theorem dX5_sets_5 : decode cX5_sets 5 = .ok (.aload_n 0, 1) := by decide +kernel
theorem dX5_sets_6 : decode cX5_sets 6 = .ok (.iload_n 1, 1) := by decide +kernel
theorem dX5_sets_7 : decode cX5_sets 7 = .ok (.iload_n 2, 1) := by decide +kernel
theorem dX5_sets_8 : decode cX5_sets 8 = .ok (.invokevirtual 117, 3) := by decide +kernel
theorem dX5_sets_11 : decode cX5_sets 11 = .ok (.invokevirtual 120, 3) := by decide +kernel
theorem dX5_sets_14 : decode cX5_sets 14 = .ok (.ireturn, 1) := by decide +kernel
theorem dX5_input_0 : decode cX5_input 0 = .ok (.aload_n 0, 1) := by decide +kernel
theorem dX5_input_1 : decode cX5_input 1 = .ok (.invokevirtual 114, 3) := by decide +kernel
theorem dX5_input_4 : decode cX5_input 4 = .ok (.aload_n 0, 1) := by decide +kernel
theorem dX5_input_5 : decode cX5_input 5 = .ok (.aload_n 0, 1) := by decide +kernel
theorem dX5_input_6 : decode cX5_input 6 = .ok (.iload_n 1, 1) := by decide +kernel
theorem dX5_input_7 : decode cX5_input 7 = .ok (.invokevirtual 123, 3) := by decide +kernel
theorem dX5_input_10 : decode cX5_input 10 = .ok (.invokevirtual 120, 3) := by decide +kernel
theorem dX5_input_13 : decode cX5_input 13 = .ok (.ireturn, 1) := by decide +kernel
theorem dX5_shifts_0 : decode cX5_shifts 0 = .ok (.aload_n 0, 1) := by decide +kernel
theorem dX5_shifts_1 : decode cX5_shifts 1 = .ok (.invokevirtual 114, 3) := by decide +kernel
theorem dX5_shifts_4 : decode cX5_shifts 4 = .ok (.aload_n 0, 1) := by decide +kernel
theorem dX5_shifts_5 : decode cX5_shifts 5 = .ok (.aload_n 0, 1) := by decide +kernel
theorem dX5_shifts_6 : decode cX5_shifts 6 = .ok (.iload_n 1, 1) := by decide +kernel
theorem dX5_shifts_7 : decode cX5_shifts 7 = .ok (.invokevirtual 126, 3) := by decide +kernel
theorem dX5_shifts_10 : decode cX5_shifts 10 = .ok (.invokevirtual 120, 3) := by decide +kernel
theorem dX5_shifts_13 : decode cX5_shifts 13 = .ok (.ireturn, 1) := by decide +kernel
theorem dX5_reaches_0 : decode cX5_reaches 0 = .ok (.aload_n 0, 1) := by decide +kernel
theorem dX5_reaches_1 : decode cX5_reaches 1 = .ok (.invokevirtual 114, 3) := by decide +kernel
theorem dX5_reaches_4 : decode cX5_reaches 4 = .ok (.aload_n 0, 1) := by decide +kernel
theorem dX5_reaches_5 : decode cX5_reaches 5 = .ok (.aload_n 0, 1) := by decide +kernel
theorem dX5_reaches_6 : decode cX5_reaches 6 = .ok (.iload_n 1, 1) := by decide +kernel
theorem dX5_reaches_7 : decode cX5_reaches 7 = .ok (.invokevirtual 129, 3) := by decide +kernel
theorem dX5_reaches_10 : decode cX5_reaches 10 = .ok (.invokevirtual 120, 3) := by decide +kernel
theorem dX5_reaches_13 : decode cX5_reaches 13 = .ok (.ireturn, 1) := by decide +kernel
theorem dX5_wears_0 : decode cX5_wears 0 = .ok (.aload_n 0, 1) := by decide +kernel
theorem dX5_wears_1 : decode cX5_wears 1 = .ok (.invokevirtual 114, 3) := by decide +kernel
theorem dX5_wears_4 : decode cX5_wears 4 = .ok (.aload_n 0, 1) := by decide +kernel
theorem dX5_wears_5 : decode cX5_wears 5 = .ok (.aload_n 0, 1) := by decide +kernel
theorem dX5_wears_6 : decode cX5_wears 6 = .ok (.iload_n 1, 1) := by decide +kernel
theorem dX5_wears_7 : decode cX5_wears 7 = .ok (.iload_n 2, 1) := by decide +kernel
theorem dX5_wears_8 : decode cX5_wears 8 = .ok (.invokevirtual 132, 3) := by decide +kernel
theorem dX5_wears_11 : decode cX5_wears 11 = .ok (.invokevirtual 120, 3) := by decide +kernel
theorem dX5_wears_14 : decode cX5_wears 14 = .ok (.ireturn, 1) := by decide +kernel
theorem dX5_clears_0 : decode cX5_clears 0 = .ok (.aload_n 0, 1) := by decide +kernel
theorem dX5_clears_1 : decode cX5_clears 1 = .ok (.invokevirtual 114, 3) := by decide +kernel
theorem dX5_clears_4 : decode cX5_clears 4 = .ok (.aload_n 0, 1) := by decide +kernel
theorem dX5_clears_5 : decode cX5_clears 5 = .ok (.aload_n 0, 1) := by decide +kernel
theorem dX5_clears_6 : decode cX5_clears 6 = .ok (.invokevirtual 79, 3) := by decide +kernel
theorem dX5_clears_9 : decode cX5_clears 9 = .ok (.invokevirtual 120, 3) := by decide +kernel
theorem dX5_clears_12 : decode cX5_clears 12 = .ok (.ireturn, 1) := by decide +kernel
theorem dX5_lays_0 : decode cX5_lays 0 = .ok (.aload_n 0, 1) := by decide +kernel
theorem dX5_lays_1 : decode cX5_lays 1 = .ok (.invokevirtual 114, 3) := by decide +kernel
theorem dX5_lays_4 : decode cX5_lays 4 = .ok (.aload_n 0, 1) := by decide +kernel
theorem dX5_lays_5 : decode cX5_lays 5 = .ok (.aload_n 0, 1) := by decide +kernel
theorem dX5_lays_6 : decode cX5_lays 6 = .ok (.lload_n 1, 1) := by decide +kernel
theorem dX5_lays_7 : decode cX5_lays 7 = .ok (.invokevirtual 135, 3) := by decide +kernel
theorem dX5_lays_10 : decode cX5_lays 10 = .ok (.invokevirtual 120, 3) := by decide +kernel
theorem dX5_lays_13 : decode cX5_lays 13 = .ok (.ireturn, 1) := by decide +kernel
theorem dX5_ups_0 : decode cX5_ups 0 = .ok (.aload_n 0, 1) := by decide +kernel
theorem dX5_ups_1 : decode cX5_ups 1 = .ok (.invokevirtual 114, 3) := by decide +kernel
theorem dX5_ups_4 : decode cX5_ups 4 = .ok (.aload_n 0, 1) := by decide +kernel
theorem dX5_ups_5 : decode cX5_ups 5 = .ok (.aload_n 0, 1) := by decide +kernel
theorem dX5_ups_6 : decode cX5_ups 6 = .ok (.iload_n 1, 1) := by decide +kernel
theorem dX5_ups_7 : decode cX5_ups 7 = .ok (.iconst 1, 1) := by decide +kernel
theorem dX5_ups_8 : decode cX5_ups 8 = .ok (.invokevirtual 139, 3) := by decide +kernel
theorem dX5_ups_11 : decode cX5_ups 11 = .ok (.invokevirtual 120, 3) := by decide +kernel
theorem dX5_ups_14 : decode cX5_ups 14 = .ok (.ireturn, 1) := by decide +kernel
theorem dX5_downs_0 : decode cX5_downs 0 = .ok (.aload_n 0, 1) := by decide +kernel
theorem dX5_downs_1 : decode cX5_downs 1 = .ok (.invokevirtual 114, 3) := by decide +kernel
theorem dX5_downs_4 : decode cX5_downs 4 = .ok (.aload_n 0, 1) := by decide +kernel
theorem dX5_downs_5 : decode cX5_downs 5 = .ok (.aload_n 0, 1) := by decide +kernel
theorem dX5_downs_6 : decode cX5_downs 6 = .ok (.iload_n 1, 1) := by decide +kernel
theorem dX5_downs_7 : decode cX5_downs 7 = .ok (.iconst (-1), 1) := by decide +kernel
theorem dX5_downs_8 : decode cX5_downs 8 = .ok (.invokevirtual 139, 3) := by decide +kernel
theorem dX5_downs_11 : decode cX5_downs 11 = .ok (.invokevirtual 120, 3) := by decide +kernel
theorem dX5_downs_14 : decode cX5_downs 14 = .ok (.ireturn, 1) := by decide +kernel
theorem dX5_times_0 : decode cX5_times 0 = .ok (.aload_n 0, 1) := by decide +kernel
theorem dX5_times_1 : decode cX5_times 1 = .ok (.invokevirtual 114, 3) := by decide +kernel
theorem dX5_times_4 : decode cX5_times 4 = .ok (.aload_n 0, 1) := by decide +kernel
theorem dX5_times_5 : decode cX5_times 5 = .ok (.aload_n 0, 1) := by decide +kernel
theorem dX5_times_6 : decode cX5_times 6 = .ok (.iload_n 1, 1) := by decide +kernel
theorem dX5_times_7 : decode cX5_times 7 = .ok (.iload_n 2, 1) := by decide +kernel
theorem dX5_times_8 : decode cX5_times 8 = .ok (.invokevirtual 142, 3) := by decide +kernel
theorem dX5_times_11 : decode cX5_times 11 = .ok (.invokevirtual 120, 3) := by decide +kernel
theorem dX5_times_14 : decode cX5_times 14 = .ok (.ireturn, 1) := by decide +kernel
theorem dX5_divides_0 : decode cX5_divides 0 = .ok (.aload_n 0, 1) := by decide +kernel
theorem dX5_divides_1 : decode cX5_divides 1 = .ok (.invokevirtual 114, 3) := by decide +kernel
theorem dX5_divides_4 : decode cX5_divides 4 = .ok (.aload_n 0, 1) := by decide +kernel
theorem dX5_divides_5 : decode cX5_divides 5 = .ok (.invokevirtual 145, 3) := by decide +kernel
theorem dX5_divides_8 : decode cX5_divides 8 = .ok (.istore_n 1, 1) := by decide +kernel
theorem dX5_divides_9 : decode cX5_divides 9 = .ok (.iload_n 1, 1) := by decide +kernel
theorem dX5_divides_10 : decode cX5_divides 10 = .ok (.bipush (-3), 2) := by decide +kernel
theorem dX5_divides_12 : decode cX5_divides 12 = .ok (.if_icmp .ne 7, 3) := by decide +kernel
theorem dX5_divides_15 : decode cX5_divides 15 = .ok (.aload_n 0, 1) := by decide +kernel
theorem dX5_divides_16 : decode cX5_divides 16 = .ok (.invokevirtual 148, 3) := by decide +kernel
theorem dX5_divides_19 : decode cX5_divides 19 = .ok (.aload_n 0, 1) := by decide +kernel
theorem dX5_divides_20 : decode cX5_divides 20 = .ok (.iload_n 1, 1) := by decide +kernel
theorem dX5_divides_21 : decode cX5_divides 21 = .ok (.invokevirtual 120, 3) := by decide +kernel
theorem dX5_divides_24 : decode cX5_divides 24 = .ok (.ireturn, 1) := by decide +kernel
theorem dX5_turns_0 : decode cX5_turns 0 = .ok (.iload_n 1, 1) := by decide +kernel
theorem dX5_turns_1 : decode cX5_turns 1 = .ok (.i2l, 1) := by decide +kernel
theorem dX5_turns_2 : decode cX5_turns 2 = .ok (.lconst 0, 1) := by decide +kernel
theorem dX5_turns_3 : decode cX5_turns 3 = .ok (.ldc2_w 77, 3) := by decide +kernel
theorem dX5_turns_6 : decode cX5_turns 6 = .ok (.invokestatic 53, 3) := by decide +kernel
theorem dX5_turns_9 : decode cX5_turns 9 = .ok (.ifCond .eq 22, 3) := by decide +kernel
theorem dX5_turns_12 : decode cX5_turns 12 = .ok (.iload_n 2, 1) := by decide +kernel
theorem dX5_turns_13 : decode cX5_turns 13 = .ok (.i2l, 1) := by decide +kernel
theorem dX5_turns_14 : decode cX5_turns 14 = .ok (.lconst 0, 1) := by decide +kernel
theorem dX5_turns_15 : decode cX5_turns 15 = .ok (.lconst 1, 1) := by decide +kernel
theorem dX5_turns_16 : decode cX5_turns 16 = .ok (.invokestatic 53, 3) := by decide +kernel
theorem dX5_turns_19 : decode cX5_turns 19 = .ok (.ifCond .eq 12, 3) := by decide +kernel
theorem dX5_turns_22 : decode cX5_turns 22 = .ok (.aload_n 0, 1) := by decide +kernel
theorem dX5_turns_23 : decode cX5_turns 23 = .ok (.iload_n 1, 1) := by decide +kernel
theorem dX5_turns_24 : decode cX5_turns 24 = .ok (.iload_n 2, 1) := by decide +kernel
theorem dX5_turns_25 : decode cX5_turns 25 = .ok (.invokevirtual 83, 3) := by decide +kernel
theorem dX5_turns_28 : decode cX5_turns 28 = .ok (.goto 9, 3) := by decide +kernel
theorem dX5_turns_31 : decode cX5_turns 31 = .ok (.aload_n 0, 1) := by decide +kernel
theorem dX5_turns_32 : decode cX5_turns 32 = .ok (.bipush (-2), 2) := by decide +kernel
theorem dX5_turns_34 : decode cX5_turns 34 = .ok (.invokevirtual 44, 3) := by decide +kernel
theorem dX5_turns_37 : decode cX5_turns 37 = .ok (.ireturn, 1) := by decide +kernel
theorem dX5_drumTold_0 : decode cX5_drumTold 0 = .ok (.iload_n 2, 1) := by decide +kernel
theorem dX5_drumTold_1 : decode cX5_drumTold 1 = .ok (.ifCond .ne 14, 3) := by decide +kernel
theorem dX5_drumTold_4 : decode cX5_drumTold 4 = .ok (.aload_n 0, 1) := by decide +kernel
theorem dX5_drumTold_5 : decode cX5_drumTold 5 = .ok (.getfield 7, 3) := by decide +kernel
theorem dX5_drumTold_8 : decode cX5_drumTold 8 = .ok (.iconst 0, 1) := by decide +kernel
theorem dX5_drumTold_9 : decode cX5_drumTold 9 = .ok (.iload_n 1, 1) := by decide +kernel
theorem dX5_drumTold_10 : decode cX5_drumTold 10 = .ok (.iadd, 1) := by decide +kernel
theorem dX5_drumTold_11 : decode cX5_drumTold 11 = .ok (.iaload, 1) := by decide +kernel
theorem dX5_drumTold_12 : decode cX5_drumTold 12 = .ok (.goto 40, 3) := by decide +kernel
theorem dX5_drumTold_15 : decode cX5_drumTold 15 = .ok (.iload_n 2, 1) := by decide +kernel
theorem dX5_drumTold_16 : decode cX5_drumTold 16 = .ok (.iconst 1, 1) := by decide +kernel
theorem dX5_drumTold_17 : decode cX5_drumTold 17 = .ok (.if_icmp .ne 26, 3) := by decide +kernel
theorem dX5_drumTold_20 : decode cX5_drumTold 20 = .ok (.aload_n 0, 1) := by decide +kernel
theorem dX5_drumTold_21 : decode cX5_drumTold 21 = .ok (.getfield 7, 3) := by decide +kernel
theorem dX5_drumTold_24 : decode cX5_drumTold 24 = .ok (.iconst 0, 1) := by decide +kernel
theorem dX5_drumTold_25 : decode cX5_drumTold 25 = .ok (.iload_n 1, 1) := by decide +kernel
theorem dX5_drumTold_26 : decode cX5_drumTold 26 = .ok (.iadd, 1) := by decide +kernel
theorem dX5_drumTold_27 : decode cX5_drumTold 27 = .ok (.iaload, 1) := by decide +kernel
theorem dX5_drumTold_28 : decode cX5_drumTold 28 = .ok (.aload_n 0, 1) := by decide +kernel
theorem dX5_drumTold_29 : decode cX5_drumTold 29 = .ok (.getfield 7, 3) := by decide +kernel
theorem dX5_drumTold_32 : decode cX5_drumTold 32 = .ok (.bipush 6, 2) := by decide +kernel
theorem dX5_drumTold_34 : decode cX5_drumTold 34 = .ok (.iload_n 1, 1) := by decide +kernel
theorem dX5_drumTold_35 : decode cX5_drumTold 35 = .ok (.iadd, 1) := by decide +kernel
theorem dX5_drumTold_36 : decode cX5_drumTold 36 = .ok (.iaload, 1) := by decide +kernel
theorem dX5_drumTold_37 : decode cX5_drumTold 37 = .ok (.invokestatic 57, 3) := by decide +kernel
theorem dX5_drumTold_40 : decode cX5_drumTold 40 = .ok (.goto 12, 3) := by decide +kernel
theorem dX5_drumTold_43 : decode cX5_drumTold 43 = .ok (.aload_n 0, 1) := by decide +kernel
theorem dX5_drumTold_44 : decode cX5_drumTold 44 = .ok (.getfield 7, 3) := by decide +kernel
theorem dX5_drumTold_47 : decode cX5_drumTold 47 = .ok (.bipush 6, 2) := by decide +kernel
theorem dX5_drumTold_49 : decode cX5_drumTold 49 = .ok (.iload_n 1, 1) := by decide +kernel
theorem dX5_drumTold_50 : decode cX5_drumTold 50 = .ok (.iadd, 1) := by decide +kernel
theorem dX5_drumTold_51 : decode cX5_drumTold 51 = .ok (.iaload, 1) := by decide +kernel
theorem dX5_drumTold_52 : decode cX5_drumTold 52 = .ok (.ireturn, 1) := by decide +kernel
theorem dX5_drum_0 : decode cX5_drum 0 = .ok (.iload_n 1, 1) := by decide +kernel
theorem dX5_drum_1 : decode cX5_drum 1 = .ok (.invokestatic 90, 3) := by decide +kernel
theorem dX5_drum_4 : decode cX5_drum 4 = .ok (.ifCond .eq 24, 3) := by decide +kernel
theorem dX5_drum_7 : decode cX5_drum 7 = .ok (.iload_n 2, 1) := by decide +kernel
theorem dX5_drum_8 : decode cX5_drum 8 = .ok (.i2l, 1) := by decide +kernel
theorem dX5_drum_9 : decode cX5_drum 9 = .ok (.lconst 0, 1) := by decide +kernel
theorem dX5_drum_10 : decode cX5_drum 10 = .ok (.ldc2_w 151, 3) := by decide +kernel
theorem dX5_drum_13 : decode cX5_drum 13 = .ok (.invokestatic 53, 3) := by decide +kernel
theorem dX5_drum_16 : decode cX5_drum 16 = .ok (.ifCond .eq 12, 3) := by decide +kernel
theorem dX5_drum_19 : decode cX5_drum 19 = .ok (.aload_n 0, 1) := by decide +kernel
theorem dX5_drum_20 : decode cX5_drum 20 = .ok (.iload_n 1, 1) := by decide +kernel
theorem dX5_drum_21 : decode cX5_drum 21 = .ok (.iload_n 2, 1) := by decide +kernel
theorem dX5_drum_22 : decode cX5_drum 22 = .ok (.invokevirtual 153, 3) := by decide +kernel
theorem dX5_drum_25 : decode cX5_drum 25 = .ok (.goto 9, 3) := by decide +kernel
theorem dX5_drum_28 : decode cX5_drum 28 = .ok (.aload_n 0, 1) := by decide +kernel
theorem dX5_drum_29 : decode cX5_drum 29 = .ok (.bipush (-2), 2) := by decide +kernel
theorem dX5_drum_31 : decode cX5_drum 31 = .ok (.invokevirtual 44, 3) := by decide +kernel
theorem dX5_drum_34 : decode cX5_drum 34 = .ok (.ireturn, 1) := by decide +kernel
theorem dX5_wheel_0 : decode cX5_wheel 0 = .ok (.iload_n 1, 1) := by decide +kernel
theorem dX5_wheel_1 : decode cX5_wheel 1 = .ok (.i2l, 1) := by decide +kernel
theorem dX5_wheel_2 : decode cX5_wheel 2 = .ok (.lconst 0, 1) := by decide +kernel
theorem dX5_wheel_3 : decode cX5_wheel 3 = .ok (.ldc2_w 156, 3) := by decide +kernel
theorem dX5_wheel_6 : decode cX5_wheel 6 = .ok (.invokestatic 53, 3) := by decide +kernel
theorem dX5_wheel_9 : decode cX5_wheel 9 = .ok (.ifCond .eq 15, 3) := by decide +kernel
theorem dX5_wheel_12 : decode cX5_wheel 12 = .ok (.aload_n 0, 1) := by decide +kernel
theorem dX5_wheel_13 : decode cX5_wheel 13 = .ok (.getfield 7, 3) := by decide +kernel
theorem dX5_wheel_16 : decode cX5_wheel 16 = .ok (.bipush 12, 2) := by decide +kernel
theorem dX5_wheel_18 : decode cX5_wheel 18 = .ok (.iload_n 1, 1) := by decide +kernel
theorem dX5_wheel_19 : decode cX5_wheel 19 = .ok (.iadd, 1) := by decide +kernel
theorem dX5_wheel_20 : decode cX5_wheel 20 = .ok (.iaload, 1) := by decide +kernel
theorem dX5_wheel_21 : decode cX5_wheel 21 = .ok (.goto 9, 3) := by decide +kernel
theorem dX5_wheel_24 : decode cX5_wheel 24 = .ok (.aload_n 0, 1) := by decide +kernel
theorem dX5_wheel_25 : decode cX5_wheel 25 = .ok (.bipush (-2), 2) := by decide +kernel
theorem dX5_wheel_27 : decode cX5_wheel 27 = .ok (.invokevirtual 44, 3) := by decide +kernel
theorem dX5_wheel_30 : decode cX5_wheel 30 = .ok (.ireturn, 1) := by decide +kernel
theorem dX5_valueOf_0 : decode cX5_valueOf 0 = .ok (.lconst 0, 1) := by decide +kernel
theorem dX5_valueOf_1 : decode cX5_valueOf 1 = .ok (.lstore_n 2, 1) := by decide +kernel
theorem dX5_valueOf_2 : decode cX5_valueOf 2 = .ok (.bipush 11, 2) := by decide +kernel
theorem dX5_valueOf_4 : decode cX5_valueOf 4 = .ok (.istore 4, 2) := by decide +kernel
theorem dX5_valueOf_6 : decode cX5_valueOf 6 = .ok (.iload 4, 2) := by decide +kernel
theorem dX5_valueOf_8 : decode cX5_valueOf 8 = .ok (.ifCond .lt 23, 3) := by decide +kernel
theorem dX5_valueOf_11 : decode cX5_valueOf 11 = .ok (.ldc2_w 112, 3) := by decide +kernel
theorem dX5_valueOf_14 : decode cX5_valueOf 14 = .ok (.lload_n 2, 1) := by decide +kernel
theorem dX5_valueOf_15 : decode cX5_valueOf 15 = .ok (.lmul, 1) := by decide +kernel
theorem dX5_valueOf_16 : decode cX5_valueOf 16 = .ok (.aload_n 0, 1) := by decide +kernel
theorem dX5_valueOf_17 : decode cX5_valueOf 17 = .ok (.iload_n 1, 1) := by decide +kernel
theorem dX5_valueOf_18 : decode cX5_valueOf 18 = .ok (.iload 4, 2) := by decide +kernel
theorem dX5_valueOf_20 : decode cX5_valueOf 20 = .ok (.iadd, 1) := by decide +kernel
theorem dX5_valueOf_21 : decode cX5_valueOf 21 = .ok (.iaload, 1) := by decide +kernel
theorem dX5_valueOf_22 : decode cX5_valueOf 22 = .ok (.i2l, 1) := by decide +kernel
theorem dX5_valueOf_23 : decode cX5_valueOf 23 = .ok (.ladd, 1) := by decide +kernel
theorem dX5_valueOf_24 : decode cX5_valueOf 24 = .ok (.lstore_n 2, 1) := by decide +kernel
theorem dX5_valueOf_25 : decode cX5_valueOf 25 = .ok (.iinc 4 (-1), 3) := by decide +kernel
theorem dX5_valueOf_28 : decode cX5_valueOf 28 = .ok (.goto (-22), 3) := by decide +kernel
theorem dX5_valueOf_31 : decode cX5_valueOf 31 = .ok (.lload_n 2, 1) := by decide +kernel
theorem dX5_valueOf_32 : decode cX5_valueOf 32 = .ok (.lreturn, 1) := by decide +kernel
theorem dX5_value_0 : decode cX5_value 0 = .ok (.aload_n 0, 1) := by decide +kernel
theorem dX5_value_1 : decode cX5_value 1 = .ok (.getfield 7, 3) := by decide +kernel
theorem dX5_value_4 : decode cX5_value 4 = .ok (.bipush 12, 2) := by decide +kernel
theorem dX5_value_6 : decode cX5_value 6 = .ok (.invokestatic 158, 3) := by decide +kernel
theorem dX5_value_9 : decode cX5_value 9 = .ok (.lreturn, 1) := by decide +kernel
theorem dX5_counter_0 : decode cX5_counter 0 = .ok (.iload_n 1, 1) := by decide +kernel
theorem dX5_counter_1 : decode cX5_counter 1 = .ok (.i2l, 1) := by decide +kernel
theorem dX5_counter_2 : decode cX5_counter 2 = .ok (.lconst 0, 1) := by decide +kernel
theorem dX5_counter_3 : decode cX5_counter 3 = .ok (.ldc2_w 99, 3) := by decide +kernel
theorem dX5_counter_6 : decode cX5_counter 6 = .ok (.invokestatic 53, 3) := by decide +kernel
theorem dX5_counter_9 : decode cX5_counter 9 = .ok (.ifCond .eq 15, 3) := by decide +kernel
theorem dX5_counter_12 : decode cX5_counter 12 = .ok (.aload_n 0, 1) := by decide +kernel
theorem dX5_counter_13 : decode cX5_counter 13 = .ok (.getfield 7, 3) := by decide +kernel
theorem dX5_counter_16 : decode cX5_counter 16 = .ok (.bipush 24, 2) := by decide +kernel
theorem dX5_counter_18 : decode cX5_counter 18 = .ok (.iload_n 1, 1) := by decide +kernel
theorem dX5_counter_19 : decode cX5_counter 19 = .ok (.iadd, 1) := by decide +kernel
theorem dX5_counter_20 : decode cX5_counter 20 = .ok (.iaload, 1) := by decide +kernel
theorem dX5_counter_21 : decode cX5_counter 21 = .ok (.goto 9, 3) := by decide +kernel
theorem dX5_counter_24 : decode cX5_counter 24 = .ok (.aload_n 0, 1) := by decide +kernel
theorem dX5_counter_25 : decode cX5_counter 25 = .ok (.bipush (-2), 2) := by decide +kernel
theorem dX5_counter_27 : decode cX5_counter 27 = .ok (.invokevirtual 44, 3) := by decide +kernel
theorem dX5_counter_30 : decode cX5_counter 30 = .ok (.ireturn, 1) := by decide +kernel
theorem dX5_countTold_0 : decode cX5_countTold 0 = .ok (.iload_n 1, 1) := by decide +kernel
theorem dX5_countTold_1 : decode cX5_countTold 1 = .ok (.tableswitch 93 0 6 #[43, 54, 69, 81, 81, 81, 81], 43) := by decide +kernel
theorem dX5_countTold_44 : decode cX5_countTold 44 = .ok (.aload_n 0, 1) := by decide +kernel
theorem dX5_countTold_45 : decode cX5_countTold 45 = .ok (.getfield 7, 3) := by decide +kernel
theorem dX5_countTold_48 : decode cX5_countTold 48 = .ok (.iconst 0, 1) := by decide +kernel
theorem dX5_countTold_49 : decode cX5_countTold 49 = .ok (.bipush 6, 2) := by decide +kernel
theorem dX5_countTold_51 : decode cX5_countTold 51 = .ok (.invokestatic 106, 3) := by decide +kernel
theorem dX5_countTold_54 : decode cX5_countTold 54 = .ok (.ireturn, 1) := by decide +kernel
theorem dX5_countTold_55 : decode cX5_countTold 55 = .ok (.aload_n 0, 1) := by decide +kernel
theorem dX5_countTold_56 : decode cX5_countTold 56 = .ok (.invokevirtual 67, 3) := by decide +kernel
theorem dX5_countTold_59 : decode cX5_countTold 59 = .ok (.aload_n 0, 1) := by decide +kernel
theorem dX5_countTold_60 : decode cX5_countTold 60 = .ok (.getfield 25, 3) := by decide +kernel
theorem dX5_countTold_63 : decode cX5_countTold 63 = .ok (.iconst 0, 1) := by decide +kernel
theorem dX5_countTold_64 : decode cX5_countTold 64 = .ok (.bipush 6, 2) := by decide +kernel
theorem dX5_countTold_66 : decode cX5_countTold 66 = .ok (.invokestatic 106, 3) := by decide +kernel
theorem dX5_countTold_69 : decode cX5_countTold 69 = .ok (.ireturn, 1) := by decide +kernel
theorem dX5_countTold_70 : decode cX5_countTold 70 = .ok (.aload_n 0, 1) := by decide +kernel
theorem dX5_countTold_71 : decode cX5_countTold 71 = .ok (.getfield 7, 3) := by decide +kernel
theorem dX5_countTold_74 : decode cX5_countTold 74 = .ok (.bipush 24, 2) := by decide +kernel
theorem dX5_countTold_76 : decode cX5_countTold 76 = .ok (.bipush 7, 2) := by decide +kernel
theorem dX5_countTold_78 : decode cX5_countTold 78 = .ok (.invokestatic 106, 3) := by decide +kernel
theorem dX5_countTold_81 : decode cX5_countTold 81 = .ok (.ireturn, 1) := by decide +kernel
theorem dX5_countTold_82 : decode cX5_countTold 82 = .ok (.aload_n 0, 1) := by decide +kernel
theorem dX5_countTold_83 : decode cX5_countTold 83 = .ok (.getfield 7, 3) := by decide +kernel
theorem dX5_countTold_86 : decode cX5_countTold 86 = .ok (.bipush 31, 2) := by decide +kernel
theorem dX5_countTold_88 : decode cX5_countTold 88 = .ok (.iload_n 1, 1) := by decide +kernel
theorem dX5_countTold_89 : decode cX5_countTold 89 = .ok (.iadd, 1) := by decide +kernel
theorem dX5_countTold_90 : decode cX5_countTold 90 = .ok (.iconst 3, 1) := by decide +kernel
theorem dX5_countTold_91 : decode cX5_countTold 91 = .ok (.isub, 1) := by decide +kernel
theorem dX5_countTold_92 : decode cX5_countTold 92 = .ok (.iaload, 1) := by decide +kernel
theorem dX5_countTold_93 : decode cX5_countTold 93 = .ok (.ireturn, 1) := by decide +kernel
theorem dX5_countTold_94 : decode cX5_countTold 94 = .ok (.iconst 0, 1) := by decide +kernel
theorem dX5_countTold_95 : decode cX5_countTold 95 = .ok (.istore_n 2, 1) := by decide +kernel
theorem dX5_countTold_96 : decode cX5_countTold 96 = .ok (.iconst 0, 1) := by decide +kernel
theorem dX5_countTold_97 : decode cX5_countTold 97 = .ok (.istore_n 3, 1) := by decide +kernel
theorem dX5_countTold_98 : decode cX5_countTold 98 = .ok (.iload_n 3, 1) := by decide +kernel
theorem dX5_countTold_99 : decode cX5_countTold 99 = .ok (.bipush 6, 2) := by decide +kernel
theorem dX5_countTold_101 : decode cX5_countTold 101 = .ok (.if_icmp .ge 24, 3) := by decide +kernel
theorem dX5_countTold_104 : decode cX5_countTold 104 = .ok (.iload_n 2, 1) := by decide +kernel
theorem dX5_countTold_105 : decode cX5_countTold 105 = .ok (.aload_n 0, 1) := by decide +kernel
theorem dX5_countTold_106 : decode cX5_countTold 106 = .ok (.getfield 7, 3) := by decide +kernel
theorem dX5_countTold_109 : decode cX5_countTold 109 = .ok (.bipush 6, 2) := by decide +kernel
theorem dX5_countTold_111 : decode cX5_countTold 111 = .ok (.iload_n 3, 1) := by decide +kernel
theorem dX5_countTold_112 : decode cX5_countTold 112 = .ok (.iadd, 1) := by decide +kernel
theorem dX5_countTold_113 : decode cX5_countTold 113 = .ok (.iaload, 1) := by decide +kernel
theorem dX5_countTold_114 : decode cX5_countTold 114 = .ok (.invokestatic 103, 3) := by decide +kernel
theorem dX5_countTold_117 : decode cX5_countTold 117 = .ok (.iadd, 1) := by decide +kernel
theorem dX5_countTold_118 : decode cX5_countTold 118 = .ok (.istore_n 2, 1) := by decide +kernel
theorem dX5_countTold_119 : decode cX5_countTold 119 = .ok (.iinc 3 1, 3) := by decide +kernel
theorem dX5_countTold_122 : decode cX5_countTold 122 = .ok (.goto (-24), 3) := by decide +kernel
theorem dX5_countTold_125 : decode cX5_countTold 125 = .ok (.iload_n 2, 1) := by decide +kernel
theorem dX5_countTold_126 : decode cX5_countTold 126 = .ok (.ireturn, 1) := by decide +kernel
theorem dX5_count_0 : decode cX5_count 0 = .ok (.iload_n 1, 1) := by decide +kernel
theorem dX5_count_1 : decode cX5_count 1 = .ok (.i2l, 1) := by decide +kernel
theorem dX5_count_2 : decode cX5_count 2 = .ok (.lconst 0, 1) := by decide +kernel
theorem dX5_count_3 : decode cX5_count 3 = .ok (.ldc2_w 162, 3) := by decide +kernel
theorem dX5_count_6 : decode cX5_count 6 = .ok (.invokestatic 53, 3) := by decide +kernel
theorem dX5_count_9 : decode cX5_count 9 = .ok (.ifCond .eq 11, 3) := by decide +kernel
theorem dX5_count_12 : decode cX5_count 12 = .ok (.aload_n 0, 1) := by decide +kernel
theorem dX5_count_13 : decode cX5_count 13 = .ok (.iload_n 1, 1) := by decide +kernel
theorem dX5_count_14 : decode cX5_count 14 = .ok (.invokevirtual 164, 3) := by decide +kernel
theorem dX5_count_17 : decode cX5_count 17 = .ok (.goto 9, 3) := by decide +kernel
theorem dX5_count_20 : decode cX5_count 20 = .ok (.aload_n 0, 1) := by decide +kernel
theorem dX5_count_21 : decode cX5_count 21 = .ok (.bipush (-2), 2) := by decide +kernel
theorem dX5_count_23 : decode cX5_count 23 = .ok (.invokevirtual 44, 3) := by decide +kernel
theorem dX5_count_26 : decode cX5_count 26 = .ok (.ireturn, 1) := by decide +kernel
theorem dX5_tries_0 : decode cX5_tries 0 = .ok (.iconst 0, 1) := by decide +kernel
theorem dX5_tries_1 : decode cX5_tries 1 = .ok (.istore_n 2, 1) := by decide +kernel
theorem dX5_tries_2 : decode cX5_tries 2 = .ok (.iload_n 2, 1) := by decide +kernel
theorem dX5_tries_3 : decode cX5_tries 3 = .ok (.bipush 12, 2) := by decide +kernel
theorem dX5_tries_5 : decode cX5_tries 5 = .ok (.if_icmp .ge 16, 3) := by decide +kernel
theorem dX5_tries_8 : decode cX5_tries 8 = .ok (.aload_n 0, 1) := by decide +kernel
theorem dX5_tries_9 : decode cX5_tries 9 = .ok (.getfield 28, 3) := by decide +kernel
theorem dX5_tries_12 : decode cX5_tries 12 = .ok (.iload_n 2, 1) := by decide +kernel
theorem dX5_tries_13 : decode cX5_tries 13 = .ok (.iconst 0, 1) := by decide +kernel
theorem dX5_tries_14 : decode cX5_tries 14 = .ok (.iastore, 1) := by decide +kernel
theorem dX5_tries_15 : decode cX5_tries 15 = .ok (.iinc 2 1, 3) := by decide +kernel
theorem dX5_tries_18 : decode cX5_tries 18 = .ok (.goto (-16), 3) := by decide +kernel
theorem dX5_tries_21 : decode cX5_tries 21 = .ok (.iconst 0, 1) := by decide +kernel
theorem dX5_tries_22 : decode cX5_tries 22 = .ok (.istore_n 2, 1) := by decide +kernel
theorem dX5_tries_23 : decode cX5_tries 23 = .ok (.iload_n 2, 1) := by decide +kernel
theorem dX5_tries_24 : decode cX5_tries 24 = .ok (.iload_n 1, 1) := by decide +kernel
theorem dX5_tries_25 : decode cX5_tries 25 = .ok (.if_icmp .ge 21, 3) := by decide +kernel
theorem dX5_tries_28 : decode cX5_tries 28 = .ok (.aload_n 0, 1) := by decide +kernel
theorem dX5_tries_29 : decode cX5_tries 29 = .ok (.aload_n 0, 1) := by decide +kernel
theorem dX5_tries_30 : decode cX5_tries 30 = .ok (.getfield 28, 3) := by decide +kernel
theorem dX5_tries_33 : decode cX5_tries 33 = .ok (.iconst 0, 1) := by decide +kernel
theorem dX5_tries_34 : decode cX5_tries 34 = .ok (.iconst 0, 1) := by decide +kernel
theorem dX5_tries_35 : decode cX5_tries 35 = .ok (.iconst 1, 1) := by decide +kernel
theorem dX5_tries_36 : decode cX5_tries 36 = .ok (.invokevirtual 61, 3) := by decide +kernel
theorem dX5_tries_39 : decode cX5_tries 39 = .ok (.istore_n 3, 1) := by decide +kernel
theorem dX5_tries_40 : decode cX5_tries 40 = .ok (.iinc 2 1, 3) := by decide +kernel
theorem dX5_tries_43 : decode cX5_tries 43 = .ok (.goto (-20), 3) := by decide +kernel
theorem dX5_tries_46 : decode cX5_tries 46 = .ok (.aload_n 0, 1) := by decide +kernel
theorem dX5_tries_47 : decode cX5_tries 47 = .ok (.getfield 28, 3) := by decide +kernel
theorem dX5_tries_50 : decode cX5_tries 50 = .ok (.iconst 0, 1) := by decide +kernel
theorem dX5_tries_51 : decode cX5_tries 51 = .ok (.invokestatic 158, 3) := by decide +kernel
theorem dX5_tries_54 : decode cX5_tries 54 = .ok (.lreturn, 1) := by decide +kernel
theorem dX5_trialOf_0 : decode cX5_trialOf 0 = .ok (.aload_n 0, 1) := by decide +kernel
theorem dX5_trialOf_1 : decode cX5_trialOf 1 = .ok (.invokevirtual 67, 3) := by decide +kernel
theorem dX5_trialOf_4 : decode cX5_trialOf 4 = .ok (.aload_n 0, 1) := by decide +kernel
theorem dX5_trialOf_5 : decode cX5_trialOf 5 = .ok (.iload_n 1, 1) := by decide +kernel
theorem dX5_trialOf_6 : decode cX5_trialOf 6 = .ok (.invokevirtual 167, 3) := by decide +kernel
theorem dX5_trialOf_9 : decode cX5_trialOf 9 = .ok (.lreturn, 1) := by decide +kernel
theorem dX5_trial_0 : decode cX5_trial 0 = .ok (.iload_n 1, 1) := by decide +kernel
theorem dX5_trial_1 : decode cX5_trial 1 = .ok (.i2l, 1) := by decide +kernel
theorem dX5_trial_2 : decode cX5_trial 2 = .ok (.lconst 1, 1) := by decide +kernel
theorem dX5_trial_3 : decode cX5_trial 3 = .ok (.ldc2_w 65, 3) := by decide +kernel
theorem dX5_trial_6 : decode cX5_trial 6 = .ok (.invokestatic 53, 3) := by decide +kernel
theorem dX5_trial_9 : decode cX5_trial 9 = .ok (.ifCond .eq 11, 3) := by decide +kernel
theorem dX5_trial_12 : decode cX5_trial 12 = .ok (.aload_n 0, 1) := by decide +kernel
theorem dX5_trial_13 : decode cX5_trial 13 = .ok (.iload_n 1, 1) := by decide +kernel
theorem dX5_trial_14 : decode cX5_trial 14 = .ok (.invokevirtual 171, 3) := by decide +kernel
theorem dX5_trial_17 : decode cX5_trial 17 = .ok (.goto 10, 3) := by decide +kernel
theorem dX5_trial_20 : decode cX5_trial 20 = .ok (.aload_n 0, 1) := by decide +kernel
theorem dX5_trial_21 : decode cX5_trial 21 = .ok (.bipush (-2), 2) := by decide +kernel
theorem dX5_trial_23 : decode cX5_trial 23 = .ok (.invokevirtual 44, 3) := by decide +kernel
theorem dX5_trial_26 : decode cX5_trial 26 = .ok (.i2l, 1) := by decide +kernel
theorem dX5_trial_27 : decode cX5_trial 27 = .ok (.lreturn, 1) := by decide +kernel
theorem dX5_explained_0 : decode cX5_explained 0 = .ok (.iconst 0, 1) := by decide +kernel
theorem dX5_explained_1 : decode cX5_explained 1 = .ok (.istore 5, 2) := by decide +kernel
theorem dX5_explained_3 : decode cX5_explained 3 = .ok (.iconst (-1), 1) := by decide +kernel
theorem dX5_explained_4 : decode cX5_explained 4 = .ok (.istore 6, 2) := by decide +kernel
theorem dX5_explained_6 : decode cX5_explained 6 = .ok (.iconst (-1), 1) := by decide +kernel
theorem dX5_explained_7 : decode cX5_explained 7 = .ok (.istore 7, 2) := by decide +kernel
theorem dX5_explained_9 : decode cX5_explained 9 = .ok (.iconst 0, 1) := by decide +kernel
theorem dX5_explained_10 : decode cX5_explained 10 = .ok (.istore 8, 2) := by decide +kernel
theorem dX5_explained_12 : decode cX5_explained 12 = .ok (.iload 8, 2) := by decide +kernel
theorem dX5_explained_14 : decode cX5_explained 14 = .ok (.bipush 6, 2) := by decide +kernel
theorem dX5_explained_16 : decode cX5_explained 16 = .ok (.if_icmp .ge 119, 3) := by decide +kernel
theorem dX5_explained_19 : decode cX5_explained 19 = .ok (.iconst 1, 1) := by decide +kernel
theorem dX5_explained_20 : decode cX5_explained 20 = .ok (.istore 9, 2) := by decide +kernel
theorem dX5_explained_22 : decode cX5_explained 22 = .ok (.iload 9, 2) := by decide +kernel
theorem dX5_explained_24 : decode cX5_explained 24 = .ok (.bipush 10, 2) := by decide +kernel
theorem dX5_explained_26 : decode cX5_explained 26 = .ok (.if_icmp .ge 103, 3) := by decide +kernel
theorem dX5_explained_29 : decode cX5_explained 29 = .ok (.iconst 0, 1) := by decide +kernel
theorem dX5_explained_30 : decode cX5_explained 30 = .ok (.istore 10, 2) := by decide +kernel
theorem dX5_explained_32 : decode cX5_explained 32 = .ok (.iload 10, 2) := by decide +kernel
theorem dX5_explained_34 : decode cX5_explained 34 = .ok (.bipush 6, 2) := by decide +kernel
theorem dX5_explained_36 : decode cX5_explained 36 = .ok (.if_icmp .ge 43, 3) := by decide +kernel
theorem dX5_explained_39 : decode cX5_explained 39 = .ok (.aload_n 0, 1) := by decide +kernel
theorem dX5_explained_40 : decode cX5_explained 40 = .ok (.getfield 25, 3) := by decide +kernel
theorem dX5_explained_43 : decode cX5_explained 43 = .ok (.iload 10, 2) := by decide +kernel
theorem dX5_explained_45 : decode cX5_explained 45 = .ok (.aload_n 0, 1) := by decide +kernel
theorem dX5_explained_46 : decode cX5_explained 46 = .ok (.getfield 7, 3) := by decide +kernel
theorem dX5_explained_49 : decode cX5_explained 49 = .ok (.iconst 0, 1) := by decide +kernel
theorem dX5_explained_50 : decode cX5_explained 50 = .ok (.iload 10, 2) := by decide +kernel
theorem dX5_explained_52 : decode cX5_explained 52 = .ok (.iadd, 1) := by decide +kernel
theorem dX5_explained_53 : decode cX5_explained 53 = .ok (.iaload, 1) := by decide +kernel
theorem dX5_explained_54 : decode cX5_explained 54 = .ok (.iload 10, 2) := by decide +kernel
theorem dX5_explained_56 : decode cX5_explained 56 = .ok (.iload 8, 2) := by decide +kernel
theorem dX5_explained_58 : decode cX5_explained 58 = .ok (.if_icmp .ne 10, 3) := by decide +kernel
theorem dX5_explained_61 : decode cX5_explained 61 = .ok (.iconst 1, 1) := by decide +kernel
theorem dX5_explained_62 : decode cX5_explained 62 = .ok (.iload 9, 2) := by decide +kernel
theorem dX5_explained_64 : decode cX5_explained 64 = .ok (.ishl, 1) := by decide +kernel
theorem dX5_explained_65 : decode cX5_explained 65 = .ok (.goto 4, 3) := by decide +kernel
theorem dX5_explained_68 : decode cX5_explained 68 = .ok (.iconst 0, 1) := by decide +kernel
theorem dX5_explained_69 : decode cX5_explained 69 = .ok (.invokestatic 57, 3) := by decide +kernel
theorem dX5_explained_72 : decode cX5_explained 72 = .ok (.iastore, 1) := by decide +kernel
theorem dX5_explained_73 : decode cX5_explained 73 = .ok (.iinc 10 1, 3) := by decide +kernel
theorem dX5_explained_76 : decode cX5_explained 76 = .ok (.goto (-44), 3) := by decide +kernel
theorem dX5_explained_79 : decode cX5_explained 79 = .ok (.aload_n 0, 1) := by decide +kernel
theorem dX5_explained_80 : decode cX5_explained 80 = .ok (.iload_n 3, 1) := by decide +kernel
theorem dX5_explained_81 : decode cX5_explained 81 = .ok (.invokevirtual 167, 3) := by decide +kernel
theorem dX5_explained_84 : decode cX5_explained 84 = .ok (.lload_n 1, 1) := by decide +kernel
theorem dX5_explained_85 : decode cX5_explained 85 = .ok (.lcmp, 1) := by decide +kernel
theorem dX5_explained_86 : decode cX5_explained 86 = .ok (.ifCond .ne 37, 3) := by decide +kernel
theorem dX5_explained_89 : decode cX5_explained 89 = .ok (.iinc 5 1, 3) := by decide +kernel
theorem dX5_explained_92 : decode cX5_explained 92 = .ok (.iload 6, 2) := by decide +kernel
theorem dX5_explained_94 : decode cX5_explained 94 = .ok (.iconst (-1), 1) := by decide +kernel
theorem dX5_explained_95 : decode cX5_explained 95 = .ok (.if_icmp .ne 14, 3) := by decide +kernel
theorem dX5_explained_98 : decode cX5_explained 98 = .ok (.bipush 10, 2) := by decide +kernel
theorem dX5_explained_100 : decode cX5_explained 100 = .ok (.iload 8, 2) := by decide +kernel
theorem dX5_explained_102 : decode cX5_explained 102 = .ok (.imul, 1) := by decide +kernel
theorem dX5_explained_103 : decode cX5_explained 103 = .ok (.iload 9, 2) := by decide +kernel
theorem dX5_explained_105 : decode cX5_explained 105 = .ok (.iadd, 1) := by decide +kernel
theorem dX5_explained_106 : decode cX5_explained 106 = .ok (.goto 5, 3) := by decide +kernel
theorem dX5_explained_109 : decode cX5_explained 109 = .ok (.iload 6, 2) := by decide +kernel
theorem dX5_explained_111 : decode cX5_explained 111 = .ok (.istore 6, 2) := by decide +kernel
theorem dX5_explained_113 : decode cX5_explained 113 = .ok (.bipush 10, 2) := by decide +kernel
theorem dX5_explained_115 : decode cX5_explained 115 = .ok (.iload 8, 2) := by decide +kernel
theorem dX5_explained_117 : decode cX5_explained 117 = .ok (.imul, 1) := by decide +kernel
theorem dX5_explained_118 : decode cX5_explained 118 = .ok (.iload 9, 2) := by decide +kernel
theorem dX5_explained_120 : decode cX5_explained 120 = .ok (.iadd, 1) := by decide +kernel
theorem dX5_explained_121 : decode cX5_explained 121 = .ok (.istore 7, 2) := by decide +kernel
theorem dX5_explained_123 : decode cX5_explained 123 = .ok (.iinc 9 1, 3) := by decide +kernel
theorem dX5_explained_126 : decode cX5_explained 126 = .ok (.goto (-104), 3) := by decide +kernel
theorem dX5_explained_129 : decode cX5_explained 129 = .ok (.iinc 8 1, 3) := by decide +kernel
theorem dX5_explained_132 : decode cX5_explained 132 = .ok (.goto (-120), 3) := by decide +kernel
theorem dX5_explained_135 : decode cX5_explained 135 = .ok (.iload 4, 2) := by decide +kernel
theorem dX5_explained_137 : decode cX5_explained 137 = .ok (.ifCond .ne 8, 3) := by decide +kernel
theorem dX5_explained_140 : decode cX5_explained 140 = .ok (.iload 5, 2) := by decide +kernel
theorem dX5_explained_142 : decode cX5_explained 142 = .ok (.goto 16, 3) := by decide +kernel
theorem dX5_explained_145 : decode cX5_explained 145 = .ok (.iload 4, 2) := by decide +kernel
theorem dX5_explained_147 : decode cX5_explained 147 = .ok (.iconst 1, 1) := by decide +kernel
theorem dX5_explained_148 : decode cX5_explained 148 = .ok (.if_icmp .ne 8, 3) := by decide +kernel
theorem dX5_explained_151 : decode cX5_explained 151 = .ok (.iload 6, 2) := by decide +kernel
theorem dX5_explained_153 : decode cX5_explained 153 = .ok (.goto 5, 3) := by decide +kernel
theorem dX5_explained_156 : decode cX5_explained 156 = .ok (.iload 7, 2) := by decide +kernel
theorem dX5_explained_158 : decode cX5_explained 158 = .ok (.ireturn, 1) := by decide +kernel
theorem dX5_explains_0 : decode cX5_explains 0 = .ok (.lload_n 1, 1) := by decide +kernel
theorem dX5_explains_1 : decode cX5_explains 1 = .ok (.lconst 0, 1) := by decide +kernel
theorem dX5_explains_2 : decode cX5_explains 2 = .ok (.ldc2_w 110, 3) := by decide +kernel
theorem dX5_explains_5 : decode cX5_explains 5 = .ok (.invokestatic 53, 3) := by decide +kernel
theorem dX5_explains_8 : decode cX5_explains 8 = .ok (.ifCond .eq 32, 3) := by decide +kernel
theorem dX5_explains_11 : decode cX5_explains 11 = .ok (.iload_n 3, 1) := by decide +kernel
theorem dX5_explains_12 : decode cX5_explains 12 = .ok (.i2l, 1) := by decide +kernel
theorem dX5_explains_13 : decode cX5_explains 13 = .ok (.lconst 1, 1) := by decide +kernel
theorem dX5_explains_14 : decode cX5_explains 14 = .ok (.ldc2_w 65, 3) := by decide +kernel
theorem dX5_explains_17 : decode cX5_explains 17 = .ok (.invokestatic 53, 3) := by decide +kernel
theorem dX5_explains_20 : decode cX5_explains 20 = .ok (.ifCond .eq 20, 3) := by decide +kernel
theorem dX5_explains_23 : decode cX5_explains 23 = .ok (.iload 4, 2) := by decide +kernel
theorem dX5_explains_25 : decode cX5_explains 25 = .ok (.i2l, 1) := by decide +kernel
theorem dX5_explains_26 : decode cX5_explains 26 = .ok (.lconst 0, 1) := by decide +kernel
theorem dX5_explains_27 : decode cX5_explains 27 = .ok (.ldc2_w 151, 3) := by decide +kernel
theorem dX5_explains_30 : decode cX5_explains 30 = .ok (.invokestatic 53, 3) := by decide +kernel
theorem dX5_explains_33 : decode cX5_explains 33 = .ok (.ifCond .eq 7, 3) := by decide +kernel
theorem dX5_explains_36 : decode cX5_explains 36 = .ok (.iconst 1, 1) := by decide +kernel
theorem dX5_explains_37 : decode cX5_explains 37 = .ok (.goto 4, 3) := by decide +kernel
theorem dX5_explains_40 : decode cX5_explains 40 = .ok (.iconst 0, 1) := by decide +kernel
theorem dX5_explains_41 : decode cX5_explains 41 = .ok (.istore 5, 2) := by decide +kernel
theorem dX5_explains_43 : decode cX5_explains 43 = .ok (.iload 5, 2) := by decide +kernel
theorem dX5_explains_45 : decode cX5_explains 45 = .ok (.ifCond .eq 14, 3) := by decide +kernel
theorem dX5_explains_48 : decode cX5_explains 48 = .ok (.aload_n 0, 1) := by decide +kernel
theorem dX5_explains_49 : decode cX5_explains 49 = .ok (.lload_n 1, 1) := by decide +kernel
theorem dX5_explains_50 : decode cX5_explains 50 = .ok (.iload_n 3, 1) := by decide +kernel
theorem dX5_explains_51 : decode cX5_explains 51 = .ok (.iload 4, 2) := by decide +kernel
theorem dX5_explains_53 : decode cX5_explains 53 = .ok (.invokevirtual 174, 3) := by decide +kernel
theorem dX5_explains_56 : decode cX5_explains 56 = .ok (.goto 9, 3) := by decide +kernel
theorem dX5_explains_59 : decode cX5_explains 59 = .ok (.aload_n 0, 1) := by decide +kernel
theorem dX5_explains_60 : decode cX5_explains 60 = .ok (.bipush (-2), 2) := by decide +kernel
theorem dX5_explains_62 : decode cX5_explains 62 = .ok (.invokevirtual 44, 3) := by decide +kernel
theorem dX5_explains_65 : decode cX5_explains 65 = .ok (.ireturn, 1) := by decide +kernel
theorem dX5_type_0 : decode cX5_type 0 = .ok (.iload_n 1, 1) := by decide +kernel
theorem dX5_type_1 : decode cX5_type 1 = .ok (.i2l, 1) := by decide +kernel
theorem dX5_type_2 : decode cX5_type 2 = .ok (.lconst 0, 1) := by decide +kernel
theorem dX5_type_3 : decode cX5_type 3 = .ok (.ldc2_w 178, 3) := by decide +kernel
theorem dX5_type_6 : decode cX5_type 6 = .ok (.invokestatic 53, 3) := by decide +kernel
theorem dX5_type_9 : decode cX5_type 9 = .ok (.ifCond .ne 10, 3) := by decide +kernel
theorem dX5_type_12 : decode cX5_type 12 = .ok (.aload_n 0, 1) := by decide +kernel
theorem dX5_type_13 : decode cX5_type 13 = .ok (.bipush (-2), 2) := by decide +kernel
theorem dX5_type_15 : decode cX5_type 15 = .ok (.invokevirtual 44, 3) := by decide +kernel
theorem dX5_type_18 : decode cX5_type 18 = .ok (.ireturn, 1) := by decide +kernel
theorem dX5_type_19 : decode cX5_type 19 = .ok (.aload_n 0, 1) := by decide +kernel
theorem dX5_type_20 : decode cX5_type 20 = .ok (.getfield 180, 3) := by decide +kernel
theorem dX5_type_23 : decode cX5_type 23 = .ok (.bipush 120, 2) := by decide +kernel
theorem dX5_type_25 : decode cX5_type 25 = .ok (.if_icmp .ne 10, 3) := by decide +kernel
theorem dX5_type_28 : decode cX5_type 28 = .ok (.aload_n 0, 1) := by decide +kernel
theorem dX5_type_29 : decode cX5_type 29 = .ok (.bipush (-4), 2) := by decide +kernel
theorem dX5_type_31 : decode cX5_type 31 = .ok (.invokevirtual 44, 3) := by decide +kernel
theorem dX5_type_34 : decode cX5_type 34 = .ok (.ireturn, 1) := by decide +kernel
theorem dX5_type_35 : decode cX5_type 35 = .ok (.aload_n 0, 1) := by decide +kernel
theorem dX5_type_36 : decode cX5_type 36 = .ok (.getfield 22, 3) := by decide +kernel
theorem dX5_type_39 : decode cX5_type 39 = .ok (.aload_n 0, 1) := by decide +kernel
theorem dX5_type_40 : decode cX5_type 40 = .ok (.getfield 180, 3) := by decide +kernel
theorem dX5_type_43 : decode cX5_type 43 = .ok (.iload_n 1, 1) := by decide +kernel
theorem dX5_type_44 : decode cX5_type 44 = .ok (.iastore, 1) := by decide +kernel
theorem dX5_type_45 : decode cX5_type 45 = .ok (.aload_n 0, 1) := by decide +kernel
theorem dX5_type_46 : decode cX5_type 46 = .ok (.dup, 1) := by decide +kernel
theorem dX5_type_47 : decode cX5_type 47 = .ok (.getfield 180, 3) := by decide +kernel
theorem dX5_type_50 : decode cX5_type 50 = .ok (.iconst 1, 1) := by decide +kernel
theorem dX5_type_51 : decode cX5_type 51 = .ok (.iadd, 1) := by decide +kernel
theorem dX5_type_52 : decode cX5_type 52 = .ok (.putfield 180, 3) := by decide +kernel
theorem dX5_type_55 : decode cX5_type 55 = .ok (.aload_n 0, 1) := by decide +kernel
theorem dX5_type_56 : decode cX5_type 56 = .ok (.getfield 180, 3) := by decide +kernel
theorem dX5_type_59 : decode cX5_type 59 = .ok (.ireturn, 1) := by decide +kernel
theorem dX5_wipes_0 : decode cX5_wipes 0 = .ok (.aload_n 0, 1) := by decide +kernel
theorem dX5_wipes_1 : decode cX5_wipes 1 = .ok (.getfield 180, 3) := by decide +kernel
theorem dX5_wipes_4 : decode cX5_wipes 4 = .ok (.istore_n 1, 1) := by decide +kernel
theorem dX5_wipes_5 : decode cX5_wipes 5 = .ok (.aload_n 0, 1) := by decide +kernel
theorem dX5_wipes_6 : decode cX5_wipes 6 = .ok (.iconst 0, 1) := by decide +kernel
theorem dX5_wipes_7 : decode cX5_wipes 7 = .ok (.putfield 180, 3) := by decide +kernel
theorem dX5_wipes_10 : decode cX5_wipes 10 = .ok (.iload_n 1, 1) := by decide +kernel
theorem dX5_wipes_11 : decode cX5_wipes 11 = .ok (.ireturn, 1) := by decide +kernel
theorem dX5_isAt_0 : decode cX5_isAt 0 = .ok (.aload_n 0, 1) := by decide +kernel
theorem dX5_isAt_1 : decode cX5_isAt 1 = .ok (.getfield 183, 3) := by decide +kernel
theorem dX5_isAt_4 : decode cX5_isAt 4 = .ok (.aload_n 0, 1) := by decide +kernel
theorem dX5_isAt_5 : decode cX5_isAt 5 = .ok (.getfield 180, 3) := by decide +kernel
theorem dX5_isAt_8 : decode cX5_isAt 8 = .ok (.if_icmp .ge 27, 3) := by decide +kernel
theorem dX5_isAt_11 : decode cX5_isAt 11 = .ok (.aload_n 0, 1) := by decide +kernel
theorem dX5_isAt_12 : decode cX5_isAt 12 = .ok (.getfield 22, 3) := by decide +kernel
theorem dX5_isAt_15 : decode cX5_isAt 15 = .ok (.aload_n 0, 1) := by decide +kernel
theorem dX5_isAt_16 : decode cX5_isAt 16 = .ok (.getfield 183, 3) := by decide +kernel
theorem dX5_isAt_19 : decode cX5_isAt 19 = .ok (.iaload, 1) := by decide +kernel
theorem dX5_isAt_20 : decode cX5_isAt 20 = .ok (.i2l, 1) := by decide +kernel
theorem dX5_isAt_21 : decode cX5_isAt 21 = .ok (.iload_n 1, 1) := by decide +kernel
theorem dX5_isAt_22 : decode cX5_isAt 22 = .ok (.i2l, 1) := by decide +kernel
theorem dX5_isAt_23 : decode cX5_isAt 23 = .ok (.iload_n 2, 1) := by decide +kernel
theorem dX5_isAt_24 : decode cX5_isAt 24 = .ok (.i2l, 1) := by decide +kernel
theorem dX5_isAt_25 : decode cX5_isAt 25 = .ok (.invokestatic 53, 3) := by decide +kernel
theorem dX5_isAt_28 : decode cX5_isAt 28 = .ok (.ifCond .eq 7, 3) := by decide +kernel
theorem dX5_isAt_31 : decode cX5_isAt 31 = .ok (.iconst 1, 1) := by decide +kernel
theorem dX5_isAt_32 : decode cX5_isAt 32 = .ok (.goto 4, 3) := by decide +kernel
theorem dX5_isAt_35 : decode cX5_isAt 35 = .ok (.iconst 0, 1) := by decide +kernel
theorem dX5_isAt_36 : decode cX5_isAt 36 = .ok (.ireturn, 1) := by decide +kernel
theorem dX5_blanks_0 : decode cX5_blanks 0 = .ok (.aload_n 0, 1) := by decide +kernel
theorem dX5_blanks_1 : decode cX5_blanks 1 = .ok (.bipush 32, 2) := by decide +kernel
theorem dX5_blanks_3 : decode cX5_blanks 3 = .ok (.bipush 32, 2) := by decide +kernel
theorem dX5_blanks_5 : decode cX5_blanks 5 = .ok (.invokevirtual 186, 3) := by decide +kernel
theorem dX5_blanks_8 : decode cX5_blanks 8 = .ok (.ifCond .eq 16, 3) := by decide +kernel
theorem dX5_blanks_11 : decode cX5_blanks 11 = .ok (.aload_n 0, 1) := by decide +kernel
theorem dX5_blanks_12 : decode cX5_blanks 12 = .ok (.dup, 1) := by decide +kernel
theorem dX5_blanks_13 : decode cX5_blanks 13 = .ok (.getfield 183, 3) := by decide +kernel
theorem dX5_blanks_16 : decode cX5_blanks 16 = .ok (.iconst 1, 1) := by decide +kernel
theorem dX5_blanks_17 : decode cX5_blanks 17 = .ok (.iadd, 1) := by decide +kernel
theorem dX5_blanks_18 : decode cX5_blanks 18 = .ok (.putfield 183, 3) := by decide +kernel
theorem dX5_blanks_21 : decode cX5_blanks 21 = .ok (.goto (-21), 3) := by decide +kernel
theorem dX5_blanks_24 : decode cX5_blanks 24 = .ok (.return_, 1) := by decide +kernel
theorem dX5_fails_0 : decode cX5_fails 0 = .ok (.aload_n 0, 1) := by decide +kernel
theorem dX5_fails_1 : decode cX5_fails 1 = .ok (.aload_n 0, 1) := by decide +kernel
theorem dX5_fails_2 : decode cX5_fails 2 = .ok (.getfield 183, 3) := by decide +kernel
theorem dX5_fails_5 : decode cX5_fails 5 = .ok (.putfield 189, 3) := by decide +kernel
theorem dX5_fails_8 : decode cX5_fails 8 = .ok (.iconst 0, 1) := by decide +kernel
theorem dX5_fails_9 : decode cX5_fails 9 = .ok (.ireturn, 1) := by decide +kernel
theorem dX5_manyOf_0 : decode cX5_manyOf 0 = .ok (.iload_n 0, 1) := by decide +kernel
theorem dX5_manyOf_1 : decode cX5_manyOf 1 = .ok (.tableswitch 105 99 119 #[103, 101, 105, 105, 105, 105, 99, 105, 105, 105, 105, 105, 105, 105, 105, 101, 101, 99, 101, 103, 99], 99) := by decide +kernel
theorem dX5_manyOf_100 : decode cX5_manyOf 100 = .ok (.iconst 2, 1) := by decide +kernel
theorem dX5_manyOf_101 : decode cX5_manyOf 101 = .ok (.ireturn, 1) := by decide +kernel
theorem dX5_manyOf_102 : decode cX5_manyOf 102 = .ok (.iconst 1, 1) := by decide +kernel
theorem dX5_manyOf_103 : decode cX5_manyOf 103 = .ok (.ireturn, 1) := by decide +kernel
theorem dX5_manyOf_104 : decode cX5_manyOf 104 = .ok (.iconst 0, 1) := by decide +kernel
theorem dX5_manyOf_105 : decode cX5_manyOf 105 = .ok (.ireturn, 1) := by decide +kernel
theorem dX5_manyOf_106 : decode cX5_manyOf 106 = .ok (.iconst (-1), 1) := by decide +kernel
theorem dX5_manyOf_107 : decode cX5_manyOf 107 = .ok (.ireturn, 1) := by decide +kernel
theorem dX5_takesNumber_0 : decode cX5_takesNumber 0 = .ok (.aload_n 0, 1) := by decide +kernel
theorem dX5_takesNumber_1 : decode cX5_takesNumber 1 = .ok (.invokevirtual 192, 3) := by decide +kernel
theorem dX5_takesNumber_4 : decode cX5_takesNumber 4 = .ok (.aload_n 0, 1) := by decide +kernel
theorem dX5_takesNumber_5 : decode cX5_takesNumber 5 = .ok (.getfield 183, 3) := by decide +kernel
theorem dX5_takesNumber_8 : decode cX5_takesNumber 8 = .ok (.istore_n 2, 1) := by decide +kernel
theorem dX5_takesNumber_9 : decode cX5_takesNumber 9 = .ok (.iconst 0, 1) := by decide +kernel
theorem dX5_takesNumber_10 : decode cX5_takesNumber 10 = .ok (.istore_n 3, 1) := by decide +kernel
theorem dX5_takesNumber_11 : decode cX5_takesNumber 11 = .ok (.aload_n 0, 1) := by decide +kernel
theorem dX5_takesNumber_12 : decode cX5_takesNumber 12 = .ok (.bipush 48, 2) := by decide +kernel
theorem dX5_takesNumber_14 : decode cX5_takesNumber 14 = .ok (.bipush 57, 2) := by decide +kernel
theorem dX5_takesNumber_16 : decode cX5_takesNumber 16 = .ok (.invokevirtual 186, 3) := by decide +kernel
theorem dX5_takesNumber_19 : decode cX5_takesNumber 19 = .ok (.ifCond .eq 50, 3) := by decide +kernel
theorem dX5_takesNumber_22 : decode cX5_takesNumber 22 = .ok (.aload_n 0, 1) := by decide +kernel
theorem dX5_takesNumber_23 : decode cX5_takesNumber 23 = .ok (.getfield 183, 3) := by decide +kernel
theorem dX5_takesNumber_26 : decode cX5_takesNumber 26 = .ok (.iload_n 2, 1) := by decide +kernel
theorem dX5_takesNumber_27 : decode cX5_takesNumber 27 = .ok (.bipush 6, 2) := by decide +kernel
theorem dX5_takesNumber_29 : decode cX5_takesNumber 29 = .ok (.iadd, 1) := by decide +kernel
theorem dX5_takesNumber_30 : decode cX5_takesNumber 30 = .ok (.if_icmp .ne 8, 3) := by decide +kernel
theorem dX5_takesNumber_33 : decode cX5_takesNumber 33 = .ok (.aload_n 0, 1) := by decide +kernel
theorem dX5_takesNumber_34 : decode cX5_takesNumber 34 = .ok (.invokevirtual 195, 3) := by decide +kernel
theorem dX5_takesNumber_37 : decode cX5_takesNumber 37 = .ok (.ireturn, 1) := by decide +kernel
theorem dX5_takesNumber_38 : decode cX5_takesNumber 38 = .ok (.bipush 10, 2) := by decide +kernel
theorem dX5_takesNumber_40 : decode cX5_takesNumber 40 = .ok (.iload_n 3, 1) := by decide +kernel
theorem dX5_takesNumber_41 : decode cX5_takesNumber 41 = .ok (.imul, 1) := by decide +kernel
theorem dX5_takesNumber_42 : decode cX5_takesNumber 42 = .ok (.aload_n 0, 1) := by decide +kernel
theorem dX5_takesNumber_43 : decode cX5_takesNumber 43 = .ok (.getfield 22, 3) := by decide +kernel
theorem dX5_takesNumber_46 : decode cX5_takesNumber 46 = .ok (.aload_n 0, 1) := by decide +kernel
theorem dX5_takesNumber_47 : decode cX5_takesNumber 47 = .ok (.getfield 183, 3) := by decide +kernel
theorem dX5_takesNumber_50 : decode cX5_takesNumber 50 = .ok (.iaload, 1) := by decide +kernel
theorem dX5_takesNumber_51 : decode cX5_takesNumber 51 = .ok (.iadd, 1) := by decide +kernel
theorem dX5_takesNumber_52 : decode cX5_takesNumber 52 = .ok (.bipush 48, 2) := by decide +kernel
theorem dX5_takesNumber_54 : decode cX5_takesNumber 54 = .ok (.isub, 1) := by decide +kernel
theorem dX5_takesNumber_55 : decode cX5_takesNumber 55 = .ok (.istore_n 3, 1) := by decide +kernel
theorem dX5_takesNumber_56 : decode cX5_takesNumber 56 = .ok (.aload_n 0, 1) := by decide +kernel
theorem dX5_takesNumber_57 : decode cX5_takesNumber 57 = .ok (.dup, 1) := by decide +kernel
theorem dX5_takesNumber_58 : decode cX5_takesNumber 58 = .ok (.getfield 183, 3) := by decide +kernel
theorem dX5_takesNumber_61 : decode cX5_takesNumber 61 = .ok (.iconst 1, 1) := by decide +kernel
theorem dX5_takesNumber_62 : decode cX5_takesNumber 62 = .ok (.iadd, 1) := by decide +kernel
theorem dX5_takesNumber_63 : decode cX5_takesNumber 63 = .ok (.putfield 183, 3) := by decide +kernel
theorem dX5_takesNumber_66 : decode cX5_takesNumber 66 = .ok (.goto (-55), 3) := by decide +kernel
theorem dX5_takesNumber_69 : decode cX5_takesNumber 69 = .ok (.aload_n 0, 1) := by decide +kernel
theorem dX5_takesNumber_70 : decode cX5_takesNumber 70 = .ok (.getfield 37, 3) := by decide +kernel
theorem dX5_takesNumber_73 : decode cX5_takesNumber 73 = .ok (.iload_n 1, 1) := by decide +kernel
theorem dX5_takesNumber_74 : decode cX5_takesNumber 74 = .ok (.iload_n 3, 1) := by decide +kernel
theorem dX5_takesNumber_75 : decode cX5_takesNumber 75 = .ok (.iastore, 1) := by decide +kernel
theorem dX5_takesNumber_76 : decode cX5_takesNumber 76 = .ok (.aload_n 0, 1) := by decide +kernel
theorem dX5_takesNumber_77 : decode cX5_takesNumber 77 = .ok (.getfield 183, 3) := by decide +kernel
theorem dX5_takesNumber_80 : decode cX5_takesNumber 80 = .ok (.iload_n 2, 1) := by decide +kernel
theorem dX5_takesNumber_81 : decode cX5_takesNumber 81 = .ok (.if_icmp .gt 10, 3) := by decide +kernel
theorem dX5_takesNumber_84 : decode cX5_takesNumber 84 = .ok (.aload_n 0, 1) := by decide +kernel
theorem dX5_takesNumber_85 : decode cX5_takesNumber 85 = .ok (.invokevirtual 195, 3) := by decide +kernel
theorem dX5_takesNumber_88 : decode cX5_takesNumber 88 = .ok (.ifCond .eq 7, 3) := by decide +kernel
theorem dX5_takesNumber_91 : decode cX5_takesNumber 91 = .ok (.iconst 1, 1) := by decide +kernel
theorem dX5_takesNumber_92 : decode cX5_takesNumber 92 = .ok (.goto 4, 3) := by decide +kernel
theorem dX5_takesNumber_95 : decode cX5_takesNumber 95 = .ok (.iconst 0, 1) := by decide +kernel
theorem dX5_takesNumber_96 : decode cX5_takesNumber 96 = .ok (.ireturn, 1) := by decide +kernel
theorem dX5_takesOrder_0 : decode cX5_takesOrder 0 = .ok (.aload_n 0, 1) := by decide +kernel
theorem dX5_takesOrder_1 : decode cX5_takesOrder 1 = .ok (.getfield 22, 3) := by decide +kernel
theorem dX5_takesOrder_4 : decode cX5_takesOrder 4 = .ok (.aload_n 0, 1) := by decide +kernel
theorem dX5_takesOrder_5 : decode cX5_takesOrder 5 = .ok (.getfield 183, 3) := by decide +kernel
theorem dX5_takesOrder_8 : decode cX5_takesOrder 8 = .ok (.iaload, 1) := by decide +kernel
theorem dX5_takesOrder_9 : decode cX5_takesOrder 9 = .ok (.invokestatic 198, 3) := by decide +kernel
theorem dX5_takesOrder_12 : decode cX5_takesOrder 12 = .ok (.istore_n 1, 1) := by decide +kernel
theorem dX5_takesOrder_13 : decode cX5_takesOrder 13 = .ok (.iload_n 1, 1) := by decide +kernel
theorem dX5_takesOrder_14 : decode cX5_takesOrder 14 = .ok (.iconst (-1), 1) := by decide +kernel
theorem dX5_takesOrder_15 : decode cX5_takesOrder 15 = .ok (.if_icmp .ne 8, 3) := by decide +kernel
theorem dX5_takesOrder_18 : decode cX5_takesOrder 18 = .ok (.aload_n 0, 1) := by decide +kernel
theorem dX5_takesOrder_19 : decode cX5_takesOrder 19 = .ok (.invokevirtual 195, 3) := by decide +kernel
theorem dX5_takesOrder_22 : decode cX5_takesOrder 22 = .ok (.ireturn, 1) := by decide +kernel
theorem dX5_takesOrder_23 : decode cX5_takesOrder 23 = .ok (.aload_n 0, 1) := by decide +kernel
theorem dX5_takesOrder_24 : decode cX5_takesOrder 24 = .ok (.getfield 34, 3) := by decide +kernel
theorem dX5_takesOrder_27 : decode cX5_takesOrder 27 = .ok (.aload_n 0, 1) := by decide +kernel
theorem dX5_takesOrder_28 : decode cX5_takesOrder 28 = .ok (.getfield 201, 3) := by decide +kernel
theorem dX5_takesOrder_31 : decode cX5_takesOrder 31 = .ok (.aload_n 0, 1) := by decide +kernel
theorem dX5_takesOrder_32 : decode cX5_takesOrder 32 = .ok (.getfield 22, 3) := by decide +kernel
theorem dX5_takesOrder_35 : decode cX5_takesOrder 35 = .ok (.aload_n 0, 1) := by decide +kernel
theorem dX5_takesOrder_36 : decode cX5_takesOrder 36 = .ok (.getfield 183, 3) := by decide +kernel
theorem dX5_takesOrder_39 : decode cX5_takesOrder 39 = .ok (.iaload, 1) := by decide +kernel
theorem dX5_takesOrder_40 : decode cX5_takesOrder 40 = .ok (.iastore, 1) := by decide +kernel
theorem dX5_takesOrder_41 : decode cX5_takesOrder 41 = .ok (.aload_n 0, 1) := by decide +kernel
theorem dX5_takesOrder_42 : decode cX5_takesOrder 42 = .ok (.dup, 1) := by decide +kernel
theorem dX5_takesOrder_43 : decode cX5_takesOrder 43 = .ok (.getfield 183, 3) := by decide +kernel
theorem dX5_takesOrder_46 : decode cX5_takesOrder 46 = .ok (.iconst 1, 1) := by decide +kernel
theorem dX5_takesOrder_47 : decode cX5_takesOrder 47 = .ok (.iadd, 1) := by decide +kernel
theorem dX5_takesOrder_48 : decode cX5_takesOrder 48 = .ok (.putfield 183, 3) := by decide +kernel
theorem dX5_takesOrder_51 : decode cX5_takesOrder 51 = .ok (.iconst 0, 1) := by decide +kernel
theorem dX5_takesOrder_52 : decode cX5_takesOrder 52 = .ok (.istore_n 2, 1) := by decide +kernel
theorem dX5_takesOrder_53 : decode cX5_takesOrder 53 = .ok (.iload_n 2, 1) := by decide +kernel
theorem dX5_takesOrder_54 : decode cX5_takesOrder 54 = .ok (.iload_n 1, 1) := by decide +kernel
theorem dX5_takesOrder_55 : decode cX5_takesOrder 55 = .ok (.if_icmp .ge 26, 3) := by decide +kernel
theorem dX5_takesOrder_58 : decode cX5_takesOrder 58 = .ok (.aload_n 0, 1) := by decide +kernel
theorem dX5_takesOrder_59 : decode cX5_takesOrder 59 = .ok (.iconst 2, 1) := by decide +kernel
theorem dX5_takesOrder_60 : decode cX5_takesOrder 60 = .ok (.aload_n 0, 1) := by decide +kernel
theorem dX5_takesOrder_61 : decode cX5_takesOrder 61 = .ok (.getfield 201, 3) := by decide +kernel
theorem dX5_takesOrder_64 : decode cX5_takesOrder 64 = .ok (.imul, 1) := by decide +kernel
theorem dX5_takesOrder_65 : decode cX5_takesOrder 65 = .ok (.iload_n 2, 1) := by decide +kernel
theorem dX5_takesOrder_66 : decode cX5_takesOrder 66 = .ok (.iadd, 1) := by decide +kernel
theorem dX5_takesOrder_67 : decode cX5_takesOrder 67 = .ok (.invokevirtual 204, 3) := by decide +kernel
theorem dX5_takesOrder_70 : decode cX5_takesOrder 70 = .ok (.ifCond .ne 5, 3) := by decide +kernel
theorem dX5_takesOrder_73 : decode cX5_takesOrder 73 = .ok (.iconst 0, 1) := by decide +kernel
theorem dX5_takesOrder_74 : decode cX5_takesOrder 74 = .ok (.ireturn, 1) := by decide +kernel
theorem dX5_takesOrder_75 : decode cX5_takesOrder 75 = .ok (.iinc 2 1, 3) := by decide +kernel
theorem dX5_takesOrder_78 : decode cX5_takesOrder 78 = .ok (.goto (-25), 3) := by decide +kernel
theorem dX5_takesOrder_81 : decode cX5_takesOrder 81 = .ok (.aload_n 0, 1) := by decide +kernel
theorem dX5_takesOrder_82 : decode cX5_takesOrder 82 = .ok (.invokevirtual 192, 3) := by decide +kernel
theorem dX5_takesOrder_85 : decode cX5_takesOrder 85 = .ok (.aload_n 0, 1) := by decide +kernel
theorem dX5_takesOrder_86 : decode cX5_takesOrder 86 = .ok (.bipush 59, 2) := by decide +kernel
theorem dX5_takesOrder_88 : decode cX5_takesOrder 88 = .ok (.bipush 59, 2) := by decide +kernel
theorem dX5_takesOrder_90 : decode cX5_takesOrder 90 = .ok (.invokevirtual 186, 3) := by decide +kernel
theorem dX5_takesOrder_93 : decode cX5_takesOrder 93 = .ok (.ifCond .ne 8, 3) := by decide +kernel
theorem dX5_takesOrder_96 : decode cX5_takesOrder 96 = .ok (.aload_n 0, 1) := by decide +kernel
theorem dX5_takesOrder_97 : decode cX5_takesOrder 97 = .ok (.invokevirtual 195, 3) := by decide +kernel
theorem dX5_takesOrder_100 : decode cX5_takesOrder 100 = .ok (.ireturn, 1) := by decide +kernel
theorem dX5_takesOrder_101 : decode cX5_takesOrder 101 = .ok (.aload_n 0, 1) := by decide +kernel
theorem dX5_takesOrder_102 : decode cX5_takesOrder 102 = .ok (.dup, 1) := by decide +kernel
theorem dX5_takesOrder_103 : decode cX5_takesOrder 103 = .ok (.getfield 183, 3) := by decide +kernel
theorem dX5_takesOrder_106 : decode cX5_takesOrder 106 = .ok (.iconst 1, 1) := by decide +kernel
theorem dX5_takesOrder_107 : decode cX5_takesOrder 107 = .ok (.iadd, 1) := by decide +kernel
theorem dX5_takesOrder_108 : decode cX5_takesOrder 108 = .ok (.putfield 183, 3) := by decide +kernel
theorem dX5_takesOrder_111 : decode cX5_takesOrder 111 = .ok (.aload_n 0, 1) := by decide +kernel
theorem dX5_takesOrder_112 : decode cX5_takesOrder 112 = .ok (.dup, 1) := by decide +kernel
theorem dX5_takesOrder_113 : decode cX5_takesOrder 113 = .ok (.getfield 201, 3) := by decide +kernel
theorem dX5_takesOrder_116 : decode cX5_takesOrder 116 = .ok (.iconst 1, 1) := by decide +kernel
theorem dX5_takesOrder_117 : decode cX5_takesOrder 117 = .ok (.iadd, 1) := by decide +kernel
theorem dX5_takesOrder_118 : decode cX5_takesOrder 118 = .ok (.putfield 201, 3) := by decide +kernel
theorem dX5_takesOrder_121 : decode cX5_takesOrder 121 = .ok (.iconst 1, 1) := by decide +kernel
theorem dX5_takesOrder_122 : decode cX5_takesOrder 122 = .ok (.ireturn, 1) := by decide +kernel
theorem dX5_isRead_0 : decode cX5_isRead 0 = .ok (.aload_n 0, 1) := by decide +kernel
theorem dX5_isRead_1 : decode cX5_isRead 1 = .ok (.iconst 0, 1) := by decide +kernel
theorem dX5_isRead_2 : decode cX5_isRead 2 = .ok (.putfield 183, 3) := by decide +kernel
theorem dX5_isRead_5 : decode cX5_isRead 5 = .ok (.aload_n 0, 1) := by decide +kernel
theorem dX5_isRead_6 : decode cX5_isRead 6 = .ok (.iconst 0, 1) := by decide +kernel
theorem dX5_isRead_7 : decode cX5_isRead 7 = .ok (.putfield 201, 3) := by decide +kernel
theorem dX5_isRead_10 : decode cX5_isRead 10 = .ok (.aload_n 0, 1) := by decide +kernel
theorem dX5_isRead_11 : decode cX5_isRead 11 = .ok (.invokevirtual 192, 3) := by decide +kernel
theorem dX5_isRead_14 : decode cX5_isRead 14 = .ok (.aload_n 0, 1) := by decide +kernel
theorem dX5_isRead_15 : decode cX5_isRead 15 = .ok (.getfield 183, 3) := by decide +kernel
theorem dX5_isRead_18 : decode cX5_isRead 18 = .ok (.aload_n 0, 1) := by decide +kernel
theorem dX5_isRead_19 : decode cX5_isRead 19 = .ok (.getfield 180, 3) := by decide +kernel
theorem dX5_isRead_22 : decode cX5_isRead 22 = .ok (.if_icmp .ge 19, 3) := by decide +kernel
theorem dX5_isRead_25 : decode cX5_isRead 25 = .ok (.aload_n 0, 1) := by decide +kernel
theorem dX5_isRead_26 : decode cX5_isRead 26 = .ok (.invokevirtual 207, 3) := by decide +kernel
theorem dX5_isRead_29 : decode cX5_isRead 29 = .ok (.ifCond .ne 5, 3) := by decide +kernel
theorem dX5_isRead_32 : decode cX5_isRead 32 = .ok (.iconst 0, 1) := by decide +kernel
theorem dX5_isRead_33 : decode cX5_isRead 33 = .ok (.ireturn, 1) := by decide +kernel
theorem dX5_isRead_34 : decode cX5_isRead 34 = .ok (.aload_n 0, 1) := by decide +kernel
theorem dX5_isRead_35 : decode cX5_isRead 35 = .ok (.invokevirtual 192, 3) := by decide +kernel
theorem dX5_isRead_38 : decode cX5_isRead 38 = .ok (.goto (-24), 3) := by decide +kernel
theorem dX5_isRead_41 : decode cX5_isRead 41 = .ok (.aload_n 0, 1) := by decide +kernel
theorem dX5_isRead_42 : decode cX5_isRead 42 = .ok (.getfield 201, 3) := by decide +kernel
theorem dX5_isRead_45 : decode cX5_isRead 45 = .ok (.ifCond .gt 10, 3) := by decide +kernel
theorem dX5_isRead_48 : decode cX5_isRead 48 = .ok (.aload_n 0, 1) := by decide +kernel
theorem dX5_isRead_49 : decode cX5_isRead 49 = .ok (.invokevirtual 195, 3) := by decide +kernel
theorem dX5_isRead_52 : decode cX5_isRead 52 = .ok (.ifCond .eq 7, 3) := by decide +kernel
theorem dX5_isRead_55 : decode cX5_isRead 55 = .ok (.iconst 1, 1) := by decide +kernel
theorem dX5_isRead_56 : decode cX5_isRead 56 = .ok (.goto 4, 3) := by decide +kernel
theorem dX5_isRead_59 : decode cX5_isRead 59 = .ok (.iconst 0, 1) := by decide +kernel
theorem dX5_isRead_60 : decode cX5_isRead 60 = .ok (.ireturn, 1) := by decide +kernel
theorem dX5_doneOne_0 : decode cX5_doneOne 0 = .ok (.aload_n 0, 1) := by decide +kernel
theorem dX5_doneOne_1 : decode cX5_doneOne 1 = .ok (.getfield 37, 3) := by decide +kernel
theorem dX5_doneOne_4 : decode cX5_doneOne 4 = .ok (.iconst 2, 1) := by decide +kernel
theorem dX5_doneOne_5 : decode cX5_doneOne 5 = .ok (.iload_n 1, 1) := by decide +kernel
theorem dX5_doneOne_6 : decode cX5_doneOne 6 = .ok (.imul, 1) := by decide +kernel
theorem dX5_doneOne_7 : decode cX5_doneOne 7 = .ok (.iaload, 1) := by decide +kernel
theorem dX5_doneOne_8 : decode cX5_doneOne 8 = .ok (.istore_n 2, 1) := by decide +kernel
theorem dX5_doneOne_9 : decode cX5_doneOne 9 = .ok (.aload_n 0, 1) := by decide +kernel
theorem dX5_doneOne_10 : decode cX5_doneOne 10 = .ok (.getfield 37, 3) := by decide +kernel
theorem dX5_doneOne_13 : decode cX5_doneOne 13 = .ok (.iconst 2, 1) := by decide +kernel
theorem dX5_doneOne_14 : decode cX5_doneOne 14 = .ok (.iload_n 1, 1) := by decide +kernel
theorem dX5_doneOne_15 : decode cX5_doneOne 15 = .ok (.imul, 1) := by decide +kernel
theorem dX5_doneOne_16 : decode cX5_doneOne 16 = .ok (.iconst 1, 1) := by decide +kernel
theorem dX5_doneOne_17 : decode cX5_doneOne 17 = .ok (.iadd, 1) := by decide +kernel
theorem dX5_doneOne_18 : decode cX5_doneOne 18 = .ok (.iaload, 1) := by decide +kernel
theorem dX5_doneOne_19 : decode cX5_doneOne 19 = .ok (.istore_n 3, 1) := by decide +kernel
theorem dX5_doneOne_20 : decode cX5_doneOne 20 = .ok (.aload_n 0, 1) := by decide +kernel
theorem dX5_doneOne_21 : decode cX5_doneOne 21 = .ok (.getfield 34, 3) := by decide +kernel
theorem dX5_doneOne_24 : decode cX5_doneOne 24 = .ok (.iload_n 1, 1) := by decide +kernel
theorem dX5_doneOne_25 : decode cX5_doneOne 25 = .ok (.iaload, 1) := by decide +kernel
theorem dX5_doneOne_26 : decode cX5_doneOne 26 = .ok (.tableswitch 149 99 119 #[125, 118, 149, 149, 149, 149, 98, 149, 149, 149, 149, 149, 149, 149, 149, 149, 105, 130, 111, 137, 142], 98) := by decide +kernel
theorem dX5_doneOne_124 : decode cX5_doneOne 124 = .ok (.aload_n 0, 1) := by decide +kernel
theorem dX5_doneOne_125 : decode cX5_doneOne 125 = .ok (.iload_n 2, 1) := by decide +kernel
theorem dX5_doneOne_126 : decode cX5_doneOne 126 = .ok (.iload_n 3, 1) := by decide +kernel
theorem dX5_doneOne_127 : decode cX5_doneOne 127 = .ok (.invokevirtual 117, 3) := by decide +kernel
theorem dX5_doneOne_130 : decode cX5_doneOne 130 = .ok (.ireturn, 1) := by decide +kernel
theorem dX5_doneOne_131 : decode cX5_doneOne 131 = .ok (.aload_n 0, 1) := by decide +kernel
theorem dX5_doneOne_132 : decode cX5_doneOne 132 = .ok (.iload_n 2, 1) := by decide +kernel
theorem dX5_doneOne_133 : decode cX5_doneOne 133 = .ok (.invokevirtual 126, 3) := by decide +kernel
theorem dX5_doneOne_136 : decode cX5_doneOne 136 = .ok (.ireturn, 1) := by decide +kernel
theorem dX5_doneOne_137 : decode cX5_doneOne 137 = .ok (.aload_n 0, 1) := by decide +kernel
theorem dX5_doneOne_138 : decode cX5_doneOne 138 = .ok (.iload_n 2, 1) := by decide +kernel
theorem dX5_doneOne_139 : decode cX5_doneOne 139 = .ok (.iconst 1, 1) := by decide +kernel
theorem dX5_doneOne_140 : decode cX5_doneOne 140 = .ok (.invokevirtual 139, 3) := by decide +kernel
theorem dX5_doneOne_143 : decode cX5_doneOne 143 = .ok (.ireturn, 1) := by decide +kernel
theorem dX5_doneOne_144 : decode cX5_doneOne 144 = .ok (.aload_n 0, 1) := by decide +kernel
theorem dX5_doneOne_145 : decode cX5_doneOne 145 = .ok (.iload_n 2, 1) := by decide +kernel
theorem dX5_doneOne_146 : decode cX5_doneOne 146 = .ok (.iconst (-1), 1) := by decide +kernel
theorem dX5_doneOne_147 : decode cX5_doneOne 147 = .ok (.invokevirtual 139, 3) := by decide +kernel
theorem dX5_doneOne_150 : decode cX5_doneOne 150 = .ok (.ireturn, 1) := by decide +kernel
theorem dX5_doneOne_151 : decode cX5_doneOne 151 = .ok (.aload_n 0, 1) := by decide +kernel
theorem dX5_doneOne_152 : decode cX5_doneOne 152 = .ok (.invokevirtual 79, 3) := by decide +kernel
theorem dX5_doneOne_155 : decode cX5_doneOne 155 = .ok (.ireturn, 1) := by decide +kernel
theorem dX5_doneOne_156 : decode cX5_doneOne 156 = .ok (.aload_n 0, 1) := by decide +kernel
theorem dX5_doneOne_157 : decode cX5_doneOne 157 = .ok (.iload_n 2, 1) := by decide +kernel
theorem dX5_doneOne_158 : decode cX5_doneOne 158 = .ok (.iload_n 3, 1) := by decide +kernel
theorem dX5_doneOne_159 : decode cX5_doneOne 159 = .ok (.invokevirtual 142, 3) := by decide +kernel
theorem dX5_doneOne_162 : decode cX5_doneOne 162 = .ok (.ireturn, 1) := by decide +kernel
theorem dX5_doneOne_163 : decode cX5_doneOne 163 = .ok (.aload_n 0, 1) := by decide +kernel
theorem dX5_doneOne_164 : decode cX5_doneOne 164 = .ok (.invokevirtual 145, 3) := by decide +kernel
theorem dX5_doneOne_167 : decode cX5_doneOne 167 = .ok (.ireturn, 1) := by decide +kernel
theorem dX5_doneOne_168 : decode cX5_doneOne 168 = .ok (.aload_n 0, 1) := by decide +kernel
theorem dX5_doneOne_169 : decode cX5_doneOne 169 = .ok (.iload_n 2, 1) := by decide +kernel
theorem dX5_doneOne_170 : decode cX5_doneOne 170 = .ok (.iload_n 3, 1) := by decide +kernel
theorem dX5_doneOne_171 : decode cX5_doneOne 171 = .ok (.invokevirtual 132, 3) := by decide +kernel
theorem dX5_doneOne_174 : decode cX5_doneOne 174 = .ok (.ireturn, 1) := by decide +kernel
theorem dX5_doneOne_175 : decode cX5_doneOne 175 = .ok (.aload_n 0, 1) := by decide +kernel
theorem dX5_doneOne_176 : decode cX5_doneOne 176 = .ok (.iload_n 2, 1) := by decide +kernel
theorem dX5_doneOne_177 : decode cX5_doneOne 177 = .ok (.invokevirtual 129, 3) := by decide +kernel
theorem dX5_doneOne_180 : decode cX5_doneOne 180 = .ok (.ireturn, 1) := by decide +kernel
theorem dX5_does_0 : decode cX5_does 0 = .ok (.aload_n 0, 1) := by decide +kernel
theorem dX5_does_1 : decode cX5_does 1 = .ok (.invokevirtual 210, 3) := by decide +kernel
theorem dX5_does_4 : decode cX5_does 4 = .ok (.ifCond .ne 11, 3) := by decide +kernel
theorem dX5_does_7 : decode cX5_does 7 = .ok (.bipush (-10), 2) := by decide +kernel
theorem dX5_does_9 : decode cX5_does 9 = .ok (.aload_n 0, 1) := by decide +kernel
theorem dX5_does_10 : decode cX5_does 10 = .ok (.getfield 189, 3) := by decide +kernel
theorem dX5_does_13 : decode cX5_does 13 = .ok (.isub, 1) := by decide +kernel
theorem dX5_does_14 : decode cX5_does 14 = .ok (.ireturn, 1) := by decide +kernel
theorem dX5_does_15 : decode cX5_does 15 = .ok (.aload_n 0, 1) := by decide +kernel
theorem dX5_does_16 : decode cX5_does 16 = .ok (.invokevirtual 114, 3) := by decide +kernel
theorem dX5_does_19 : decode cX5_does 19 = .ok (.iconst 0, 1) := by decide +kernel
theorem dX5_does_20 : decode cX5_does 20 = .ok (.istore_n 1, 1) := by decide +kernel
theorem dX5_does_21 : decode cX5_does 21 = .ok (.iload_n 1, 1) := by decide +kernel
theorem dX5_does_22 : decode cX5_does 22 = .ok (.aload_n 0, 1) := by decide +kernel
theorem dX5_does_23 : decode cX5_does 23 = .ok (.getfield 201, 3) := by decide +kernel
theorem dX5_does_26 : decode cX5_does 26 = .ok (.if_icmp .ge 29, 3) := by decide +kernel
theorem dX5_does_29 : decode cX5_does 29 = .ok (.aload_n 0, 1) := by decide +kernel
theorem dX5_does_30 : decode cX5_does 30 = .ok (.iload_n 1, 1) := by decide +kernel
theorem dX5_does_31 : decode cX5_does 31 = .ok (.invokevirtual 213, 3) := by decide +kernel
theorem dX5_does_34 : decode cX5_does 34 = .ok (.bipush (-2), 2) := by decide +kernel
theorem dX5_does_36 : decode cX5_does 36 = .ok (.if_icmp .gt 13, 3) := by decide +kernel
theorem dX5_does_39 : decode cX5_does 39 = .ok (.aload_n 0, 1) := by decide +kernel
theorem dX5_does_40 : decode cX5_does 40 = .ok (.invokevirtual 148, 3) := by decide +kernel
theorem dX5_does_43 : decode cX5_does 43 = .ok (.sipush (-1000), 3) := by decide +kernel
theorem dX5_does_46 : decode cX5_does 46 = .ok (.iload_n 1, 1) := by decide +kernel
theorem dX5_does_47 : decode cX5_does 47 = .ok (.isub, 1) := by decide +kernel
theorem dX5_does_48 : decode cX5_does 48 = .ok (.ireturn, 1) := by decide +kernel
theorem dX5_does_49 : decode cX5_does 49 = .ok (.iinc 1 1, 3) := by decide +kernel
theorem dX5_does_52 : decode cX5_does 52 = .ok (.goto (-31), 3) := by decide +kernel
theorem dX5_does_55 : decode cX5_does 55 = .ok (.aload_n 0, 1) := by decide +kernel
theorem dX5_does_56 : decode cX5_does 56 = .ok (.invokevirtual 48, 3) := by decide +kernel
theorem dX5_does_59 : decode cX5_does 59 = .ok (.aload_n 0, 1) := by decide +kernel
theorem dX5_does_60 : decode cX5_does 60 = .ok (.getfield 201, 3) := by decide +kernel
theorem dX5_does_63 : decode cX5_does 63 = .ok (.ireturn, 1) := by decide +kernel
theorem dX5_toldAt_0 : decode cX5_toldAt 0 = .ok (.iload_n 1, 1) := by decide +kernel
theorem dX5_toldAt_1 : decode cX5_toldAt 1 = .ok (.iconst 3, 1) := by decide +kernel
theorem dX5_toldAt_2 : decode cX5_toldAt 2 = .ok (.if_icmp .ge 12, 3) := by decide +kernel
theorem dX5_toldAt_5 : decode cX5_toldAt 5 = .ok (.aload_n 0, 1) := by decide +kernel
theorem dX5_toldAt_6 : decode cX5_toldAt 6 = .ok (.getfield 19, 3) := by decide +kernel
theorem dX5_toldAt_9 : decode cX5_toldAt 9 = .ok (.iload_n 1, 1) := by decide +kernel
theorem dX5_toldAt_10 : decode cX5_toldAt 10 = .ok (.iaload, 1) := by decide +kernel
theorem dX5_toldAt_11 : decode cX5_toldAt 11 = .ok (.goto 19, 3) := by decide +kernel
theorem dX5_toldAt_14 : decode cX5_toldAt 14 = .ok (.iload_n 1, 1) := by decide +kernel
theorem dX5_toldAt_15 : decode cX5_toldAt 15 = .ok (.iconst 3, 1) := by decide +kernel
theorem dX5_toldAt_16 : decode cX5_toldAt 16 = .ok (.if_icmp .ne 10, 3) := by decide +kernel
theorem dX5_toldAt_19 : decode cX5_toldAt 19 = .ok (.aload_n 0, 1) := by decide +kernel
theorem dX5_toldAt_20 : decode cX5_toldAt 20 = .ok (.getfield 180, 3) := by decide +kernel
theorem dX5_toldAt_23 : decode cX5_toldAt 23 = .ok (.goto 7, 3) := by decide +kernel
theorem dX5_toldAt_26 : decode cX5_toldAt 26 = .ok (.aload_n 0, 1) := by decide +kernel
theorem dX5_toldAt_27 : decode cX5_toldAt 27 = .ok (.getfield 40, 3) := by decide +kernel
theorem dX5_toldAt_30 : decode cX5_toldAt 30 = .ok (.ireturn, 1) := by decide +kernel
theorem dX5_told_0 : decode cX5_told 0 = .ok (.iload_n 1, 1) := by decide +kernel
theorem dX5_told_1 : decode cX5_told 1 = .ok (.i2l, 1) := by decide +kernel
theorem dX5_told_2 : decode cX5_told 2 = .ok (.lconst 0, 1) := by decide +kernel
theorem dX5_told_3 : decode cX5_told 3 = .ok (.ldc2_w 216, 3) := by decide +kernel
theorem dX5_told_6 : decode cX5_told 6 = .ok (.invokestatic 53, 3) := by decide +kernel
theorem dX5_told_9 : decode cX5_told 9 = .ok (.ifCond .eq 11, 3) := by decide +kernel
theorem dX5_told_12 : decode cX5_told 12 = .ok (.aload_n 0, 1) := by decide +kernel
theorem dX5_told_13 : decode cX5_told 13 = .ok (.iload_n 1, 1) := by decide +kernel
theorem dX5_told_14 : decode cX5_told 14 = .ok (.invokevirtual 218, 3) := by decide +kernel
theorem dX5_told_17 : decode cX5_told 17 = .ok (.goto 9, 3) := by decide +kernel
theorem dX5_told_20 : decode cX5_told 20 = .ok (.aload_n 0, 1) := by decide +kernel
theorem dX5_told_21 : decode cX5_told 21 = .ok (.bipush (-2), 2) := by decide +kernel
theorem dX5_told_23 : decode cX5_told 23 = .ok (.invokevirtual 44, 3) := by decide +kernel
theorem dX5_told_26 : decode cX5_told 26 = .ok (.ireturn, 1) := by decide +kernel
theorem dX5_mix_0 : decode cX5_mix 0 = .ok (.aload_n 0, 1) := by decide +kernel
theorem dX5_mix_1 : decode cX5_mix 1 = .ok (.ldc2_w 221, 3) := by decide +kernel
theorem dX5_mix_4 : decode cX5_mix 4 = .ok (.aload_n 0, 1) := by decide +kernel
theorem dX5_mix_5 : decode cX5_mix 5 = .ok (.getfield 223, 3) := by decide +kernel
theorem dX5_mix_8 : decode cX5_mix 8 = .ok (.lmul, 1) := by decide +kernel
theorem dX5_mix_9 : decode cX5_mix 9 = .ok (.lload_n 1, 1) := by decide +kernel
theorem dX5_mix_10 : decode cX5_mix 10 = .ok (.ladd, 1) := by decide +kernel
theorem dX5_mix_11 : decode cX5_mix 11 = .ok (.putfield 223, 3) := by decide +kernel
theorem dX5_mix_14 : decode cX5_mix 14 = .ok (.return_, 1) := by decide +kernel
theorem dX5_digest_0 : decode cX5_digest 0 = .ok (.aload_n 0, 1) := by decide +kernel
theorem dX5_digest_1 : decode cX5_digest 1 = .ok (.ldc2_w 227, 3) := by decide +kernel
theorem dX5_digest_4 : decode cX5_digest 4 = .ok (.putfield 223, 3) := by decide +kernel
theorem dX5_digest_7 : decode cX5_digest 7 = .ok (.iconst 0, 1) := by decide +kernel
theorem dX5_digest_8 : decode cX5_digest 8 = .ok (.istore_n 1, 1) := by decide +kernel
theorem dX5_digest_9 : decode cX5_digest 9 = .ok (.iload_n 1, 1) := by decide +kernel
theorem dX5_digest_10 : decode cX5_digest 10 = .ok (.iconst 5, 1) := by decide +kernel
theorem dX5_digest_11 : decode cX5_digest 11 = .ok (.if_icmp .ge 19, 3) := by decide +kernel
theorem dX5_digest_14 : decode cX5_digest 14 = .ok (.aload_n 0, 1) := by decide +kernel
theorem dX5_digest_15 : decode cX5_digest 15 = .ok (.aload_n 0, 1) := by decide +kernel
theorem dX5_digest_16 : decode cX5_digest 16 = .ok (.iload_n 1, 1) := by decide +kernel
theorem dX5_digest_17 : decode cX5_digest 17 = .ok (.invokevirtual 218, 3) := by decide +kernel
theorem dX5_digest_20 : decode cX5_digest 20 = .ok (.i2l, 1) := by decide +kernel
theorem dX5_digest_21 : decode cX5_digest 21 = .ok (.invokevirtual 229, 3) := by decide +kernel
theorem dX5_digest_24 : decode cX5_digest 24 = .ok (.iinc 1 1, 3) := by decide +kernel
theorem dX5_digest_27 : decode cX5_digest 27 = .ok (.goto (-18), 3) := by decide +kernel
theorem dX5_digest_30 : decode cX5_digest 30 = .ok (.iconst 0, 1) := by decide +kernel
theorem dX5_digest_31 : decode cX5_digest 31 = .ok (.istore_n 1, 1) := by decide +kernel
theorem dX5_digest_32 : decode cX5_digest 32 = .ok (.iload_n 1, 1) := by decide +kernel
theorem dX5_digest_33 : decode cX5_digest 33 = .ok (.bipush 8, 2) := by decide +kernel
theorem dX5_digest_35 : decode cX5_digest 35 = .ok (.if_icmp .ge 19, 3) := by decide +kernel
theorem dX5_digest_38 : decode cX5_digest 38 = .ok (.aload_n 0, 1) := by decide +kernel
theorem dX5_digest_39 : decode cX5_digest 39 = .ok (.aload_n 0, 1) := by decide +kernel
theorem dX5_digest_40 : decode cX5_digest 40 = .ok (.iload_n 1, 1) := by decide +kernel
theorem dX5_digest_41 : decode cX5_digest 41 = .ok (.invokevirtual 164, 3) := by decide +kernel
theorem dX5_digest_44 : decode cX5_digest 44 = .ok (.i2l, 1) := by decide +kernel
theorem dX5_digest_45 : decode cX5_digest 45 = .ok (.invokevirtual 229, 3) := by decide +kernel
theorem dX5_digest_48 : decode cX5_digest 48 = .ok (.iinc 1 1, 3) := by decide +kernel
theorem dX5_digest_51 : decode cX5_digest 51 = .ok (.goto (-19), 3) := by decide +kernel
theorem dX5_digest_54 : decode cX5_digest 54 = .ok (.iconst 0, 1) := by decide +kernel
theorem dX5_digest_55 : decode cX5_digest 55 = .ok (.istore_n 1, 1) := by decide +kernel
theorem dX5_digest_56 : decode cX5_digest 56 = .ok (.iload_n 1, 1) := by decide +kernel
theorem dX5_digest_57 : decode cX5_digest 57 = .ok (.bipush 6, 2) := by decide +kernel
theorem dX5_digest_59 : decode cX5_digest 59 = .ok (.if_icmp .ge 33, 3) := by decide +kernel
theorem dX5_digest_62 : decode cX5_digest 62 = .ok (.iconst 0, 1) := by decide +kernel
theorem dX5_digest_63 : decode cX5_digest 63 = .ok (.istore_n 2, 1) := by decide +kernel
theorem dX5_digest_64 : decode cX5_digest 64 = .ok (.iload_n 2, 1) := by decide +kernel
theorem dX5_digest_65 : decode cX5_digest 65 = .ok (.iconst 3, 1) := by decide +kernel
theorem dX5_digest_66 : decode cX5_digest 66 = .ok (.if_icmp .ge 20, 3) := by decide +kernel
theorem dX5_digest_69 : decode cX5_digest 69 = .ok (.aload_n 0, 1) := by decide +kernel
theorem dX5_digest_70 : decode cX5_digest 70 = .ok (.aload_n 0, 1) := by decide +kernel
theorem dX5_digest_71 : decode cX5_digest 71 = .ok (.iload_n 1, 1) := by decide +kernel
theorem dX5_digest_72 : decode cX5_digest 72 = .ok (.iload_n 2, 1) := by decide +kernel
theorem dX5_digest_73 : decode cX5_digest 73 = .ok (.invokevirtual 153, 3) := by decide +kernel
theorem dX5_digest_76 : decode cX5_digest 76 = .ok (.i2l, 1) := by decide +kernel
theorem dX5_digest_77 : decode cX5_digest 77 = .ok (.invokevirtual 229, 3) := by decide +kernel
theorem dX5_digest_80 : decode cX5_digest 80 = .ok (.iinc 2 1, 3) := by decide +kernel
theorem dX5_digest_83 : decode cX5_digest 83 = .ok (.goto (-19), 3) := by decide +kernel
theorem dX5_digest_86 : decode cX5_digest 86 = .ok (.iinc 1 1, 3) := by decide +kernel
theorem dX5_digest_89 : decode cX5_digest 89 = .ok (.goto (-33), 3) := by decide +kernel
theorem dX5_digest_92 : decode cX5_digest 92 = .ok (.iconst 0, 1) := by decide +kernel
theorem dX5_digest_93 : decode cX5_digest 93 = .ok (.istore_n 1, 1) := by decide +kernel
theorem dX5_digest_94 : decode cX5_digest 94 = .ok (.iload_n 1, 1) := by decide +kernel
theorem dX5_digest_95 : decode cX5_digest 95 = .ok (.bipush 19, 2) := by decide +kernel
theorem dX5_digest_97 : decode cX5_digest 97 = .ok (.if_icmp .ge 23, 3) := by decide +kernel
theorem dX5_digest_100 : decode cX5_digest 100 = .ok (.aload_n 0, 1) := by decide +kernel
theorem dX5_digest_101 : decode cX5_digest 101 = .ok (.aload_n 0, 1) := by decide +kernel
theorem dX5_digest_102 : decode cX5_digest 102 = .ok (.getfield 7, 3) := by decide +kernel
theorem dX5_digest_105 : decode cX5_digest 105 = .ok (.bipush 12, 2) := by decide +kernel
theorem dX5_digest_107 : decode cX5_digest 107 = .ok (.iload_n 1, 1) := by decide +kernel
theorem dX5_digest_108 : decode cX5_digest 108 = .ok (.iadd, 1) := by decide +kernel
theorem dX5_digest_109 : decode cX5_digest 109 = .ok (.iaload, 1) := by decide +kernel
theorem dX5_digest_110 : decode cX5_digest 110 = .ok (.i2l, 1) := by decide +kernel
theorem dX5_digest_111 : decode cX5_digest 111 = .ok (.invokevirtual 229, 3) := by decide +kernel
theorem dX5_digest_114 : decode cX5_digest 114 = .ok (.iinc 1 1, 3) := by decide +kernel
theorem dX5_digest_117 : decode cX5_digest 117 = .ok (.goto (-23), 3) := by decide +kernel
theorem dX5_digest_120 : decode cX5_digest 120 = .ok (.aload_n 0, 1) := by decide +kernel
theorem dX5_digest_121 : decode cX5_digest 121 = .ok (.invokevirtual 233, 3) := by decide +kernel
theorem dX5_digest_124 : decode cX5_digest 124 = .ok (.lstore_n 1, 1) := by decide +kernel
theorem dX5_digest_125 : decode cX5_digest 125 = .ok (.aload_n 0, 1) := by decide +kernel
theorem dX5_digest_126 : decode cX5_digest 126 = .ok (.lload_n 1, 1) := by decide +kernel
theorem dX5_digest_127 : decode cX5_digest 127 = .ok (.invokevirtual 229, 3) := by decide +kernel
theorem dX5_digest_130 : decode cX5_digest 130 = .ok (.aload_n 0, 1) := by decide +kernel
theorem dX5_digest_131 : decode cX5_digest 131 = .ok (.aload_n 0, 1) := by decide +kernel
theorem dX5_digest_132 : decode cX5_digest 132 = .ok (.bipush 9, 2) := by decide +kernel
theorem dX5_digest_134 : decode cX5_digest 134 = .ok (.invokevirtual 171, 3) := by decide +kernel
theorem dX5_digest_137 : decode cX5_digest 137 = .ok (.invokevirtual 229, 3) := by decide +kernel
theorem dX5_digest_140 : decode cX5_digest 140 = .ok (.aload_n 0, 1) := by decide +kernel
theorem dX5_digest_141 : decode cX5_digest 141 = .ok (.aload_n 0, 1) := by decide +kernel
theorem dX5_digest_142 : decode cX5_digest 142 = .ok (.lload_n 1, 1) := by decide +kernel
theorem dX5_digest_143 : decode cX5_digest 143 = .ok (.iconst 3, 1) := by decide +kernel
theorem dX5_digest_144 : decode cX5_digest 144 = .ok (.iconst 0, 1) := by decide +kernel
theorem dX5_digest_145 : decode cX5_digest 145 = .ok (.invokevirtual 174, 3) := by decide +kernel
theorem dX5_digest_148 : decode cX5_digest 148 = .ok (.i2l, 1) := by decide +kernel
theorem dX5_digest_149 : decode cX5_digest 149 = .ok (.invokevirtual 229, 3) := by decide +kernel
theorem dX5_digest_152 : decode cX5_digest 152 = .ok (.aload_n 0, 1) := by decide +kernel
theorem dX5_digest_153 : decode cX5_digest 153 = .ok (.getfield 223, 3) := by decide +kernel
theorem dX5_digest_156 : decode cX5_digest 156 = .ok (.lreturn, 1) := by decide +kernel
end
section
theorem dL_law_0 : decode cL_law 0 = .ok (.new 7, 3) := by decide +kernel
theorem dL_law_3 : decode cL_law 3 = .ok (.dup, 1) := by decide +kernel
theorem dL_law_4 : decode cL_law 4 = .ok (.invokespecial 9, 3) := by decide +kernel
theorem dL_law_7 : decode cL_law 7 = .ok (.astore_n 1, 1) := by decide +kernel
theorem dL_law_8 : decode cL_law 8 = .ok (.new 10, 3) := by decide +kernel
theorem dL_law_11 : decode cL_law 11 = .ok (.dup, 1) := by decide +kernel
theorem dL_law_12 : decode cL_law 12 = .ok (.invokespecial 12, 3) := by decide +kernel
theorem dL_law_15 : decode cL_law 15 = .ok (.astore_n 2, 1) := by decide +kernel
theorem dL_law_16 : decode cL_law 16 = .ok (.iconst 0, 1) := by decide +kernel
theorem dL_law_17 : decode cL_law 17 = .ok (.istore_n 3, 1) := by decide +kernel
theorem dL_law_18 : decode cL_law 18 = .ok (.iload_n 3, 1) := by decide +kernel
theorem dL_law_19 : decode cL_law 19 = .ok (.aload_n 0, 1) := by decide +kernel
theorem dL_law_20 : decode cL_law 20 = .ok (.arraylength, 1) := by decide +kernel
theorem dL_law_21 : decode cL_law 21 = .ok (.iconst 5, 1) := by decide +kernel
theorem dL_law_22 : decode cL_law 22 = .ok (.isub, 1) := by decide +kernel
theorem dL_law_23 : decode cL_law 23 = .ok (.if_icmp .gt 769, 3) := by decide +kernel
theorem dL_law_26 : decode cL_law 26 = .ok (.aload_n 0, 1) := by decide +kernel
theorem dL_law_27 : decode cL_law 27 = .ok (.iload_n 3, 1) := by decide +kernel
theorem dL_law_28 : decode cL_law 28 = .ok (.iaload, 1) := by decide +kernel
theorem dL_law_29 : decode cL_law 29 = .ok (.bipush 31, 2) := by decide +kernel
theorem dL_law_31 : decode cL_law 31 = .ok (.iand, 1) := by decide +kernel
theorem dL_law_32 : decode cL_law 32 = .ok (.tableswitch 754 0 24 #[116, 149, 172, 195, 218, 251, 264, 317, 340, 363, 396, 409, 442, 475, 498, 512, 535, 558, 582, 655, 678, 691, 704, 717, 740], 116) := by decide +kernel
theorem dL_law_148 : decode cL_law 148 = .ok (.aload_n 1, 1) := by decide +kernel
theorem dL_law_149 : decode cL_law 149 = .ok (.aload_n 0, 1) := by decide +kernel
theorem dL_law_150 : decode cL_law 150 = .ok (.iload_n 3, 1) := by decide +kernel
theorem dL_law_151 : decode cL_law 151 = .ok (.iconst 1, 1) := by decide +kernel
theorem dL_law_152 : decode cL_law 152 = .ok (.iadd, 1) := by decide +kernel
theorem dL_law_153 : decode cL_law 153 = .ok (.iaload, 1) := by decide +kernel
theorem dL_law_154 : decode cL_law 154 = .ok (.aload_n 0, 1) := by decide +kernel
theorem dL_law_155 : decode cL_law 155 = .ok (.iload_n 3, 1) := by decide +kernel
theorem dL_law_156 : decode cL_law 156 = .ok (.iconst 2, 1) := by decide +kernel
theorem dL_law_157 : decode cL_law 157 = .ok (.iadd, 1) := by decide +kernel
theorem dL_law_158 : decode cL_law 158 = .ok (.iaload, 1) := by decide +kernel
theorem dL_law_159 : decode cL_law 159 = .ok (.invokevirtual 13, 3) := by decide +kernel
theorem dL_law_162 : decode cL_law 162 = .ok (.aload_n 2, 1) := by decide +kernel
theorem dL_law_163 : decode cL_law 163 = .ok (.aload_n 0, 1) := by decide +kernel
theorem dL_law_164 : decode cL_law 164 = .ok (.iload_n 3, 1) := by decide +kernel
theorem dL_law_165 : decode cL_law 165 = .ok (.iconst 1, 1) := by decide +kernel
theorem dL_law_166 : decode cL_law 166 = .ok (.iadd, 1) := by decide +kernel
theorem dL_law_167 : decode cL_law 167 = .ok (.iaload, 1) := by decide +kernel
theorem dL_law_168 : decode cL_law 168 = .ok (.aload_n 0, 1) := by decide +kernel
theorem dL_law_169 : decode cL_law 169 = .ok (.iload_n 3, 1) := by decide +kernel
theorem dL_law_170 : decode cL_law 170 = .ok (.iconst 2, 1) := by decide +kernel
theorem dL_law_171 : decode cL_law 171 = .ok (.iadd, 1) := by decide +kernel
theorem dL_law_172 : decode cL_law 172 = .ok (.iaload, 1) := by decide +kernel
theorem dL_law_173 : decode cL_law 173 = .ok (.invokevirtual 17, 3) := by decide +kernel
theorem dL_law_176 : decode cL_law 176 = .ok (.if_icmp .eq 610, 3) := by decide +kernel
theorem dL_law_179 : decode cL_law 179 = .ok (.iconst 0, 1) := by decide +kernel
theorem dL_law_180 : decode cL_law 180 = .ok (.ireturn, 1) := by decide +kernel
theorem dL_law_181 : decode cL_law 181 = .ok (.aload_n 1, 1) := by decide +kernel
theorem dL_law_182 : decode cL_law 182 = .ok (.aload_n 0, 1) := by decide +kernel
theorem dL_law_183 : decode cL_law 183 = .ok (.iload_n 3, 1) := by decide +kernel
theorem dL_law_184 : decode cL_law 184 = .ok (.iconst 1, 1) := by decide +kernel
theorem dL_law_185 : decode cL_law 185 = .ok (.iadd, 1) := by decide +kernel
theorem dL_law_186 : decode cL_law 186 = .ok (.iaload, 1) := by decide +kernel
theorem dL_law_187 : decode cL_law 187 = .ok (.invokevirtual 18, 3) := by decide +kernel
theorem dL_law_190 : decode cL_law 190 = .ok (.aload_n 2, 1) := by decide +kernel
theorem dL_law_191 : decode cL_law 191 = .ok (.aload_n 0, 1) := by decide +kernel
theorem dL_law_192 : decode cL_law 192 = .ok (.iload_n 3, 1) := by decide +kernel
theorem dL_law_193 : decode cL_law 193 = .ok (.iconst 1, 1) := by decide +kernel
theorem dL_law_194 : decode cL_law 194 = .ok (.iadd, 1) := by decide +kernel
theorem dL_law_195 : decode cL_law 195 = .ok (.iaload, 1) := by decide +kernel
theorem dL_law_196 : decode cL_law 196 = .ok (.invokevirtual 22, 3) := by decide +kernel
theorem dL_law_199 : decode cL_law 199 = .ok (.if_icmp .eq 587, 3) := by decide +kernel
theorem dL_law_202 : decode cL_law 202 = .ok (.iconst 0, 1) := by decide +kernel
theorem dL_law_203 : decode cL_law 203 = .ok (.ireturn, 1) := by decide +kernel
theorem dL_law_204 : decode cL_law 204 = .ok (.aload_n 1, 1) := by decide +kernel
theorem dL_law_205 : decode cL_law 205 = .ok (.aload_n 0, 1) := by decide +kernel
theorem dL_law_206 : decode cL_law 206 = .ok (.iload_n 3, 1) := by decide +kernel
theorem dL_law_207 : decode cL_law 207 = .ok (.iconst 1, 1) := by decide +kernel
theorem dL_law_208 : decode cL_law 208 = .ok (.iadd, 1) := by decide +kernel
theorem dL_law_209 : decode cL_law 209 = .ok (.iaload, 1) := by decide +kernel
theorem dL_law_210 : decode cL_law 210 = .ok (.invokevirtual 23, 3) := by decide +kernel
theorem dL_law_213 : decode cL_law 213 = .ok (.aload_n 2, 1) := by decide +kernel
theorem dL_law_214 : decode cL_law 214 = .ok (.aload_n 0, 1) := by decide +kernel
theorem dL_law_215 : decode cL_law 215 = .ok (.iload_n 3, 1) := by decide +kernel
theorem dL_law_216 : decode cL_law 216 = .ok (.iconst 1, 1) := by decide +kernel
theorem dL_law_217 : decode cL_law 217 = .ok (.iadd, 1) := by decide +kernel
theorem dL_law_218 : decode cL_law 218 = .ok (.iaload, 1) := by decide +kernel
theorem dL_law_219 : decode cL_law 219 = .ok (.invokevirtual 26, 3) := by decide +kernel
theorem dL_law_222 : decode cL_law 222 = .ok (.if_icmp .eq 564, 3) := by decide +kernel
theorem dL_law_225 : decode cL_law 225 = .ok (.iconst 0, 1) := by decide +kernel
theorem dL_law_226 : decode cL_law 226 = .ok (.ireturn, 1) := by decide +kernel
theorem dL_law_227 : decode cL_law 227 = .ok (.aload_n 1, 1) := by decide +kernel
theorem dL_law_228 : decode cL_law 228 = .ok (.aload_n 0, 1) := by decide +kernel
theorem dL_law_229 : decode cL_law 229 = .ok (.iload_n 3, 1) := by decide +kernel
theorem dL_law_230 : decode cL_law 230 = .ok (.iconst 1, 1) := by decide +kernel
theorem dL_law_231 : decode cL_law 231 = .ok (.iadd, 1) := by decide +kernel
theorem dL_law_232 : decode cL_law 232 = .ok (.iaload, 1) := by decide +kernel
theorem dL_law_233 : decode cL_law 233 = .ok (.invokevirtual 27, 3) := by decide +kernel
theorem dL_law_236 : decode cL_law 236 = .ok (.aload_n 2, 1) := by decide +kernel
theorem dL_law_237 : decode cL_law 237 = .ok (.aload_n 0, 1) := by decide +kernel
theorem dL_law_238 : decode cL_law 238 = .ok (.iload_n 3, 1) := by decide +kernel
theorem dL_law_239 : decode cL_law 239 = .ok (.iconst 1, 1) := by decide +kernel
theorem dL_law_240 : decode cL_law 240 = .ok (.iadd, 1) := by decide +kernel
theorem dL_law_241 : decode cL_law 241 = .ok (.iaload, 1) := by decide +kernel
theorem dL_law_242 : decode cL_law 242 = .ok (.invokevirtual 30, 3) := by decide +kernel
theorem dL_law_245 : decode cL_law 245 = .ok (.if_icmp .eq 541, 3) := by decide +kernel
theorem dL_law_248 : decode cL_law 248 = .ok (.iconst 0, 1) := by decide +kernel
theorem dL_law_249 : decode cL_law 249 = .ok (.ireturn, 1) := by decide +kernel
theorem dL_law_250 : decode cL_law 250 = .ok (.aload_n 1, 1) := by decide +kernel
theorem dL_law_251 : decode cL_law 251 = .ok (.aload_n 0, 1) := by decide +kernel
theorem dL_law_252 : decode cL_law 252 = .ok (.iload_n 3, 1) := by decide +kernel
theorem dL_law_253 : decode cL_law 253 = .ok (.iconst 1, 1) := by decide +kernel
theorem dL_law_254 : decode cL_law 254 = .ok (.iadd, 1) := by decide +kernel
theorem dL_law_255 : decode cL_law 255 = .ok (.iaload, 1) := by decide +kernel
theorem dL_law_256 : decode cL_law 256 = .ok (.aload_n 0, 1) := by decide +kernel
theorem dL_law_257 : decode cL_law 257 = .ok (.iload_n 3, 1) := by decide +kernel
theorem dL_law_258 : decode cL_law 258 = .ok (.iconst 2, 1) := by decide +kernel
theorem dL_law_259 : decode cL_law 259 = .ok (.iadd, 1) := by decide +kernel
theorem dL_law_260 : decode cL_law 260 = .ok (.iaload, 1) := by decide +kernel
theorem dL_law_261 : decode cL_law 261 = .ok (.invokevirtual 31, 3) := by decide +kernel
theorem dL_law_264 : decode cL_law 264 = .ok (.aload_n 2, 1) := by decide +kernel
theorem dL_law_265 : decode cL_law 265 = .ok (.aload_n 0, 1) := by decide +kernel
theorem dL_law_266 : decode cL_law 266 = .ok (.iload_n 3, 1) := by decide +kernel
theorem dL_law_267 : decode cL_law 267 = .ok (.iconst 1, 1) := by decide +kernel
theorem dL_law_268 : decode cL_law 268 = .ok (.iadd, 1) := by decide +kernel
theorem dL_law_269 : decode cL_law 269 = .ok (.iaload, 1) := by decide +kernel
theorem dL_law_270 : decode cL_law 270 = .ok (.aload_n 0, 1) := by decide +kernel
theorem dL_law_271 : decode cL_law 271 = .ok (.iload_n 3, 1) := by decide +kernel
theorem dL_law_272 : decode cL_law 272 = .ok (.iconst 2, 1) := by decide +kernel
theorem dL_law_273 : decode cL_law 273 = .ok (.iadd, 1) := by decide +kernel
theorem dL_law_274 : decode cL_law 274 = .ok (.iaload, 1) := by decide +kernel
theorem dL_law_275 : decode cL_law 275 = .ok (.invokevirtual 34, 3) := by decide +kernel
theorem dL_law_278 : decode cL_law 278 = .ok (.if_icmp .eq 508, 3) := by decide +kernel
theorem dL_law_281 : decode cL_law 281 = .ok (.iconst 0, 1) := by decide +kernel
theorem dL_law_282 : decode cL_law 282 = .ok (.ireturn, 1) := by decide +kernel
theorem dL_law_283 : decode cL_law 283 = .ok (.aload_n 1, 1) := by decide +kernel
theorem dL_law_284 : decode cL_law 284 = .ok (.invokevirtual 35, 3) := by decide +kernel
theorem dL_law_287 : decode cL_law 287 = .ok (.aload_n 2, 1) := by decide +kernel
theorem dL_law_288 : decode cL_law 288 = .ok (.invokevirtual 39, 3) := by decide +kernel
theorem dL_law_291 : decode cL_law 291 = .ok (.if_icmp .eq 495, 3) := by decide +kernel
theorem dL_law_294 : decode cL_law 294 = .ok (.iconst 0, 1) := by decide +kernel
theorem dL_law_295 : decode cL_law 295 = .ok (.ireturn, 1) := by decide +kernel
theorem dL_law_296 : decode cL_law 296 = .ok (.aload_n 1, 1) := by decide +kernel
theorem dL_law_297 : decode cL_law 297 = .ok (.aload_n 0, 1) := by decide +kernel
theorem dL_law_298 : decode cL_law 298 = .ok (.iload_n 3, 1) := by decide +kernel
theorem dL_law_299 : decode cL_law 299 = .ok (.iconst 1, 1) := by decide +kernel
theorem dL_law_300 : decode cL_law 300 = .ok (.iadd, 1) := by decide +kernel
theorem dL_law_301 : decode cL_law 301 = .ok (.iaload, 1) := by decide +kernel
theorem dL_law_302 : decode cL_law 302 = .ok (.i2l, 1) := by decide +kernel
theorem dL_law_303 : decode cL_law 303 = .ok (.bipush 32, 2) := by decide +kernel
theorem dL_law_305 : decode cL_law 305 = .ok (.lshl, 1) := by decide +kernel
theorem dL_law_306 : decode cL_law 306 = .ok (.aload_n 0, 1) := by decide +kernel
theorem dL_law_307 : decode cL_law 307 = .ok (.iload_n 3, 1) := by decide +kernel
theorem dL_law_308 : decode cL_law 308 = .ok (.iconst 2, 1) := by decide +kernel
theorem dL_law_309 : decode cL_law 309 = .ok (.iadd, 1) := by decide +kernel
theorem dL_law_310 : decode cL_law 310 = .ok (.iaload, 1) := by decide +kernel
theorem dL_law_311 : decode cL_law 311 = .ok (.i2l, 1) := by decide +kernel
theorem dL_law_312 : decode cL_law 312 = .ok (.ldc2_w 40, 3) := by decide +kernel
theorem dL_law_315 : decode cL_law 315 = .ok (.land, 1) := by decide +kernel
theorem dL_law_316 : decode cL_law 316 = .ok (.lor, 1) := by decide +kernel
theorem dL_law_317 : decode cL_law 317 = .ok (.invokevirtual 42, 3) := by decide +kernel
theorem dL_law_320 : decode cL_law 320 = .ok (.aload_n 2, 1) := by decide +kernel
theorem dL_law_321 : decode cL_law 321 = .ok (.aload_n 0, 1) := by decide +kernel
theorem dL_law_322 : decode cL_law 322 = .ok (.iload_n 3, 1) := by decide +kernel
theorem dL_law_323 : decode cL_law 323 = .ok (.iconst 1, 1) := by decide +kernel
theorem dL_law_324 : decode cL_law 324 = .ok (.iadd, 1) := by decide +kernel
theorem dL_law_325 : decode cL_law 325 = .ok (.iaload, 1) := by decide +kernel
theorem dL_law_326 : decode cL_law 326 = .ok (.i2l, 1) := by decide +kernel
theorem dL_law_327 : decode cL_law 327 = .ok (.bipush 32, 2) := by decide +kernel
theorem dL_law_329 : decode cL_law 329 = .ok (.lshl, 1) := by decide +kernel
theorem dL_law_330 : decode cL_law 330 = .ok (.aload_n 0, 1) := by decide +kernel
theorem dL_law_331 : decode cL_law 331 = .ok (.iload_n 3, 1) := by decide +kernel
theorem dL_law_332 : decode cL_law 332 = .ok (.iconst 2, 1) := by decide +kernel
theorem dL_law_333 : decode cL_law 333 = .ok (.iadd, 1) := by decide +kernel
theorem dL_law_334 : decode cL_law 334 = .ok (.iaload, 1) := by decide +kernel
theorem dL_law_335 : decode cL_law 335 = .ok (.i2l, 1) := by decide +kernel
theorem dL_law_336 : decode cL_law 336 = .ok (.ldc2_w 40, 3) := by decide +kernel
theorem dL_law_339 : decode cL_law 339 = .ok (.land, 1) := by decide +kernel
theorem dL_law_340 : decode cL_law 340 = .ok (.lor, 1) := by decide +kernel
theorem dL_law_341 : decode cL_law 341 = .ok (.invokevirtual 46, 3) := by decide +kernel
theorem dL_law_344 : decode cL_law 344 = .ok (.if_icmp .eq 442, 3) := by decide +kernel
theorem dL_law_347 : decode cL_law 347 = .ok (.iconst 0, 1) := by decide +kernel
theorem dL_law_348 : decode cL_law 348 = .ok (.ireturn, 1) := by decide +kernel
theorem dL_law_349 : decode cL_law 349 = .ok (.aload_n 1, 1) := by decide +kernel
theorem dL_law_350 : decode cL_law 350 = .ok (.aload_n 0, 1) := by decide +kernel
theorem dL_law_351 : decode cL_law 351 = .ok (.iload_n 3, 1) := by decide +kernel
theorem dL_law_352 : decode cL_law 352 = .ok (.iconst 1, 1) := by decide +kernel
theorem dL_law_353 : decode cL_law 353 = .ok (.iadd, 1) := by decide +kernel
theorem dL_law_354 : decode cL_law 354 = .ok (.iaload, 1) := by decide +kernel
theorem dL_law_355 : decode cL_law 355 = .ok (.invokevirtual 47, 3) := by decide +kernel
theorem dL_law_358 : decode cL_law 358 = .ok (.aload_n 2, 1) := by decide +kernel
theorem dL_law_359 : decode cL_law 359 = .ok (.aload_n 0, 1) := by decide +kernel
theorem dL_law_360 : decode cL_law 360 = .ok (.iload_n 3, 1) := by decide +kernel
theorem dL_law_361 : decode cL_law 361 = .ok (.iconst 1, 1) := by decide +kernel
theorem dL_law_362 : decode cL_law 362 = .ok (.iadd, 1) := by decide +kernel
theorem dL_law_363 : decode cL_law 363 = .ok (.iaload, 1) := by decide +kernel
theorem dL_law_364 : decode cL_law 364 = .ok (.invokevirtual 50, 3) := by decide +kernel
theorem dL_law_367 : decode cL_law 367 = .ok (.if_icmp .eq 419, 3) := by decide +kernel
theorem dL_law_370 : decode cL_law 370 = .ok (.iconst 0, 1) := by decide +kernel
theorem dL_law_371 : decode cL_law 371 = .ok (.ireturn, 1) := by decide +kernel
theorem dL_law_372 : decode cL_law 372 = .ok (.aload_n 1, 1) := by decide +kernel
theorem dL_law_373 : decode cL_law 373 = .ok (.aload_n 0, 1) := by decide +kernel
theorem dL_law_374 : decode cL_law 374 = .ok (.iload_n 3, 1) := by decide +kernel
theorem dL_law_375 : decode cL_law 375 = .ok (.iconst 1, 1) := by decide +kernel
theorem dL_law_376 : decode cL_law 376 = .ok (.iadd, 1) := by decide +kernel
theorem dL_law_377 : decode cL_law 377 = .ok (.iaload, 1) := by decide +kernel
theorem dL_law_378 : decode cL_law 378 = .ok (.invokevirtual 51, 3) := by decide +kernel
theorem dL_law_381 : decode cL_law 381 = .ok (.aload_n 2, 1) := by decide +kernel
theorem dL_law_382 : decode cL_law 382 = .ok (.aload_n 0, 1) := by decide +kernel
theorem dL_law_383 : decode cL_law 383 = .ok (.iload_n 3, 1) := by decide +kernel
theorem dL_law_384 : decode cL_law 384 = .ok (.iconst 1, 1) := by decide +kernel
theorem dL_law_385 : decode cL_law 385 = .ok (.iadd, 1) := by decide +kernel
theorem dL_law_386 : decode cL_law 386 = .ok (.iaload, 1) := by decide +kernel
theorem dL_law_387 : decode cL_law 387 = .ok (.invokevirtual 54, 3) := by decide +kernel
theorem dL_law_390 : decode cL_law 390 = .ok (.if_icmp .eq 396, 3) := by decide +kernel
theorem dL_law_393 : decode cL_law 393 = .ok (.iconst 0, 1) := by decide +kernel
theorem dL_law_394 : decode cL_law 394 = .ok (.ireturn, 1) := by decide +kernel
theorem dL_law_395 : decode cL_law 395 = .ok (.aload_n 1, 1) := by decide +kernel
theorem dL_law_396 : decode cL_law 396 = .ok (.aload_n 0, 1) := by decide +kernel
theorem dL_law_397 : decode cL_law 397 = .ok (.iload_n 3, 1) := by decide +kernel
theorem dL_law_398 : decode cL_law 398 = .ok (.iconst 1, 1) := by decide +kernel
theorem dL_law_399 : decode cL_law 399 = .ok (.iadd, 1) := by decide +kernel
theorem dL_law_400 : decode cL_law 400 = .ok (.iaload, 1) := by decide +kernel
theorem dL_law_401 : decode cL_law 401 = .ok (.aload_n 0, 1) := by decide +kernel
theorem dL_law_402 : decode cL_law 402 = .ok (.iload_n 3, 1) := by decide +kernel
theorem dL_law_403 : decode cL_law 403 = .ok (.iconst 2, 1) := by decide +kernel
theorem dL_law_404 : decode cL_law 404 = .ok (.iadd, 1) := by decide +kernel
theorem dL_law_405 : decode cL_law 405 = .ok (.iaload, 1) := by decide +kernel
theorem dL_law_406 : decode cL_law 406 = .ok (.invokevirtual 55, 3) := by decide +kernel
theorem dL_law_409 : decode cL_law 409 = .ok (.aload_n 2, 1) := by decide +kernel
theorem dL_law_410 : decode cL_law 410 = .ok (.aload_n 0, 1) := by decide +kernel
theorem dL_law_411 : decode cL_law 411 = .ok (.iload_n 3, 1) := by decide +kernel
theorem dL_law_412 : decode cL_law 412 = .ok (.iconst 1, 1) := by decide +kernel
theorem dL_law_413 : decode cL_law 413 = .ok (.iadd, 1) := by decide +kernel
theorem dL_law_414 : decode cL_law 414 = .ok (.iaload, 1) := by decide +kernel
theorem dL_law_415 : decode cL_law 415 = .ok (.aload_n 0, 1) := by decide +kernel
theorem dL_law_416 : decode cL_law 416 = .ok (.iload_n 3, 1) := by decide +kernel
theorem dL_law_417 : decode cL_law 417 = .ok (.iconst 2, 1) := by decide +kernel
theorem dL_law_418 : decode cL_law 418 = .ok (.iadd, 1) := by decide +kernel
theorem dL_law_419 : decode cL_law 419 = .ok (.iaload, 1) := by decide +kernel
theorem dL_law_420 : decode cL_law 420 = .ok (.invokevirtual 58, 3) := by decide +kernel
theorem dL_law_423 : decode cL_law 423 = .ok (.if_icmp .eq 363, 3) := by decide +kernel
theorem dL_law_426 : decode cL_law 426 = .ok (.iconst 0, 1) := by decide +kernel
theorem dL_law_427 : decode cL_law 427 = .ok (.ireturn, 1) := by decide +kernel
theorem dL_law_428 : decode cL_law 428 = .ok (.aload_n 1, 1) := by decide +kernel
theorem dL_law_429 : decode cL_law 429 = .ok (.invokevirtual 59, 3) := by decide +kernel
theorem dL_law_432 : decode cL_law 432 = .ok (.aload_n 2, 1) := by decide +kernel
theorem dL_law_433 : decode cL_law 433 = .ok (.invokevirtual 62, 3) := by decide +kernel
theorem dL_law_436 : decode cL_law 436 = .ok (.if_icmp .eq 350, 3) := by decide +kernel
theorem dL_law_439 : decode cL_law 439 = .ok (.iconst 0, 1) := by decide +kernel
theorem dL_law_440 : decode cL_law 440 = .ok (.ireturn, 1) := by decide +kernel
theorem dL_law_441 : decode cL_law 441 = .ok (.aload_n 1, 1) := by decide +kernel
theorem dL_law_442 : decode cL_law 442 = .ok (.aload_n 0, 1) := by decide +kernel
theorem dL_law_443 : decode cL_law 443 = .ok (.iload_n 3, 1) := by decide +kernel
theorem dL_law_444 : decode cL_law 444 = .ok (.iconst 1, 1) := by decide +kernel
theorem dL_law_445 : decode cL_law 445 = .ok (.iadd, 1) := by decide +kernel
theorem dL_law_446 : decode cL_law 446 = .ok (.iaload, 1) := by decide +kernel
theorem dL_law_447 : decode cL_law 447 = .ok (.aload_n 0, 1) := by decide +kernel
theorem dL_law_448 : decode cL_law 448 = .ok (.iload_n 3, 1) := by decide +kernel
theorem dL_law_449 : decode cL_law 449 = .ok (.iconst 2, 1) := by decide +kernel
theorem dL_law_450 : decode cL_law 450 = .ok (.iadd, 1) := by decide +kernel
theorem dL_law_451 : decode cL_law 451 = .ok (.iaload, 1) := by decide +kernel
theorem dL_law_452 : decode cL_law 452 = .ok (.invokevirtual 63, 3) := by decide +kernel
theorem dL_law_455 : decode cL_law 455 = .ok (.aload_n 2, 1) := by decide +kernel
theorem dL_law_456 : decode cL_law 456 = .ok (.aload_n 0, 1) := by decide +kernel
theorem dL_law_457 : decode cL_law 457 = .ok (.iload_n 3, 1) := by decide +kernel
theorem dL_law_458 : decode cL_law 458 = .ok (.iconst 1, 1) := by decide +kernel
theorem dL_law_459 : decode cL_law 459 = .ok (.iadd, 1) := by decide +kernel
theorem dL_law_460 : decode cL_law 460 = .ok (.iaload, 1) := by decide +kernel
theorem dL_law_461 : decode cL_law 461 = .ok (.aload_n 0, 1) := by decide +kernel
theorem dL_law_462 : decode cL_law 462 = .ok (.iload_n 3, 1) := by decide +kernel
theorem dL_law_463 : decode cL_law 463 = .ok (.iconst 2, 1) := by decide +kernel
theorem dL_law_464 : decode cL_law 464 = .ok (.iadd, 1) := by decide +kernel
theorem dL_law_465 : decode cL_law 465 = .ok (.iaload, 1) := by decide +kernel
theorem dL_law_466 : decode cL_law 466 = .ok (.invokevirtual 66, 3) := by decide +kernel
theorem dL_law_469 : decode cL_law 469 = .ok (.if_icmp .eq 317, 3) := by decide +kernel
theorem dL_law_472 : decode cL_law 472 = .ok (.iconst 0, 1) := by decide +kernel
theorem dL_law_473 : decode cL_law 473 = .ok (.ireturn, 1) := by decide +kernel
theorem dL_law_474 : decode cL_law 474 = .ok (.aload_n 1, 1) := by decide +kernel
theorem dL_law_475 : decode cL_law 475 = .ok (.aload_n 0, 1) := by decide +kernel
theorem dL_law_476 : decode cL_law 476 = .ok (.iload_n 3, 1) := by decide +kernel
theorem dL_law_477 : decode cL_law 477 = .ok (.iconst 1, 1) := by decide +kernel
theorem dL_law_478 : decode cL_law 478 = .ok (.iadd, 1) := by decide +kernel
theorem dL_law_479 : decode cL_law 479 = .ok (.iaload, 1) := by decide +kernel
theorem dL_law_480 : decode cL_law 480 = .ok (.aload_n 0, 1) := by decide +kernel
theorem dL_law_481 : decode cL_law 481 = .ok (.iload_n 3, 1) := by decide +kernel
theorem dL_law_482 : decode cL_law 482 = .ok (.iconst 2, 1) := by decide +kernel
theorem dL_law_483 : decode cL_law 483 = .ok (.iadd, 1) := by decide +kernel
theorem dL_law_484 : decode cL_law 484 = .ok (.iaload, 1) := by decide +kernel
theorem dL_law_485 : decode cL_law 485 = .ok (.invokevirtual 67, 3) := by decide +kernel
theorem dL_law_488 : decode cL_law 488 = .ok (.aload_n 2, 1) := by decide +kernel
theorem dL_law_489 : decode cL_law 489 = .ok (.aload_n 0, 1) := by decide +kernel
theorem dL_law_490 : decode cL_law 490 = .ok (.iload_n 3, 1) := by decide +kernel
theorem dL_law_491 : decode cL_law 491 = .ok (.iconst 1, 1) := by decide +kernel
theorem dL_law_492 : decode cL_law 492 = .ok (.iadd, 1) := by decide +kernel
theorem dL_law_493 : decode cL_law 493 = .ok (.iaload, 1) := by decide +kernel
theorem dL_law_494 : decode cL_law 494 = .ok (.aload_n 0, 1) := by decide +kernel
theorem dL_law_495 : decode cL_law 495 = .ok (.iload_n 3, 1) := by decide +kernel
theorem dL_law_496 : decode cL_law 496 = .ok (.iconst 2, 1) := by decide +kernel
theorem dL_law_497 : decode cL_law 497 = .ok (.iadd, 1) := by decide +kernel
theorem dL_law_498 : decode cL_law 498 = .ok (.iaload, 1) := by decide +kernel
theorem dL_law_499 : decode cL_law 499 = .ok (.invokevirtual 70, 3) := by decide +kernel
theorem dL_law_502 : decode cL_law 502 = .ok (.if_icmp .eq 284, 3) := by decide +kernel
theorem dL_law_505 : decode cL_law 505 = .ok (.iconst 0, 1) := by decide +kernel
theorem dL_law_506 : decode cL_law 506 = .ok (.ireturn, 1) := by decide +kernel
theorem dL_law_507 : decode cL_law 507 = .ok (.aload_n 1, 1) := by decide +kernel
theorem dL_law_508 : decode cL_law 508 = .ok (.aload_n 0, 1) := by decide +kernel
theorem dL_law_509 : decode cL_law 509 = .ok (.iload_n 3, 1) := by decide +kernel
theorem dL_law_510 : decode cL_law 510 = .ok (.iconst 1, 1) := by decide +kernel
theorem dL_law_511 : decode cL_law 511 = .ok (.iadd, 1) := by decide +kernel
theorem dL_law_512 : decode cL_law 512 = .ok (.iaload, 1) := by decide +kernel
theorem dL_law_513 : decode cL_law 513 = .ok (.invokevirtual 71, 3) := by decide +kernel
theorem dL_law_516 : decode cL_law 516 = .ok (.aload_n 2, 1) := by decide +kernel
theorem dL_law_517 : decode cL_law 517 = .ok (.aload_n 0, 1) := by decide +kernel
theorem dL_law_518 : decode cL_law 518 = .ok (.iload_n 3, 1) := by decide +kernel
theorem dL_law_519 : decode cL_law 519 = .ok (.iconst 1, 1) := by decide +kernel
theorem dL_law_520 : decode cL_law 520 = .ok (.iadd, 1) := by decide +kernel
theorem dL_law_521 : decode cL_law 521 = .ok (.iaload, 1) := by decide +kernel
theorem dL_law_522 : decode cL_law 522 = .ok (.invokevirtual 74, 3) := by decide +kernel
theorem dL_law_525 : decode cL_law 525 = .ok (.if_icmp .eq 261, 3) := by decide +kernel
theorem dL_law_528 : decode cL_law 528 = .ok (.iconst 0, 1) := by decide +kernel
theorem dL_law_529 : decode cL_law 529 = .ok (.ireturn, 1) := by decide +kernel
theorem dL_law_530 : decode cL_law 530 = .ok (.aload_n 1, 1) := by decide +kernel
theorem dL_law_531 : decode cL_law 531 = .ok (.invokevirtual 75, 3) := by decide +kernel
theorem dL_law_534 : decode cL_law 534 = .ok (.aload_n 2, 1) := by decide +kernel
theorem dL_law_535 : decode cL_law 535 = .ok (.invokevirtual 79, 3) := by decide +kernel
theorem dL_law_538 : decode cL_law 538 = .ok (.lcmp, 1) := by decide +kernel
theorem dL_law_539 : decode cL_law 539 = .ok (.ifCond .eq 247, 3) := by decide +kernel
theorem dL_law_542 : decode cL_law 542 = .ok (.iconst 0, 1) := by decide +kernel
theorem dL_law_543 : decode cL_law 543 = .ok (.ireturn, 1) := by decide +kernel
theorem dL_law_544 : decode cL_law 544 = .ok (.aload_n 1, 1) := by decide +kernel
theorem dL_law_545 : decode cL_law 545 = .ok (.aload_n 0, 1) := by decide +kernel
theorem dL_law_546 : decode cL_law 546 = .ok (.iload_n 3, 1) := by decide +kernel
theorem dL_law_547 : decode cL_law 547 = .ok (.iconst 1, 1) := by decide +kernel
theorem dL_law_548 : decode cL_law 548 = .ok (.iadd, 1) := by decide +kernel
theorem dL_law_549 : decode cL_law 549 = .ok (.iaload, 1) := by decide +kernel
theorem dL_law_550 : decode cL_law 550 = .ok (.invokevirtual 80, 3) := by decide +kernel
theorem dL_law_553 : decode cL_law 553 = .ok (.aload_n 2, 1) := by decide +kernel
theorem dL_law_554 : decode cL_law 554 = .ok (.aload_n 0, 1) := by decide +kernel
theorem dL_law_555 : decode cL_law 555 = .ok (.iload_n 3, 1) := by decide +kernel
theorem dL_law_556 : decode cL_law 556 = .ok (.iconst 1, 1) := by decide +kernel
theorem dL_law_557 : decode cL_law 557 = .ok (.iadd, 1) := by decide +kernel
theorem dL_law_558 : decode cL_law 558 = .ok (.iaload, 1) := by decide +kernel
theorem dL_law_559 : decode cL_law 559 = .ok (.invokevirtual 83, 3) := by decide +kernel
theorem dL_law_562 : decode cL_law 562 = .ok (.if_icmp .eq 224, 3) := by decide +kernel
theorem dL_law_565 : decode cL_law 565 = .ok (.iconst 0, 1) := by decide +kernel
theorem dL_law_566 : decode cL_law 566 = .ok (.ireturn, 1) := by decide +kernel
theorem dL_law_567 : decode cL_law 567 = .ok (.aload_n 1, 1) := by decide +kernel
theorem dL_law_568 : decode cL_law 568 = .ok (.aload_n 0, 1) := by decide +kernel
theorem dL_law_569 : decode cL_law 569 = .ok (.iload_n 3, 1) := by decide +kernel
theorem dL_law_570 : decode cL_law 570 = .ok (.iconst 1, 1) := by decide +kernel
theorem dL_law_571 : decode cL_law 571 = .ok (.iadd, 1) := by decide +kernel
theorem dL_law_572 : decode cL_law 572 = .ok (.iaload, 1) := by decide +kernel
theorem dL_law_573 : decode cL_law 573 = .ok (.invokevirtual 84, 3) := by decide +kernel
theorem dL_law_576 : decode cL_law 576 = .ok (.aload_n 2, 1) := by decide +kernel
theorem dL_law_577 : decode cL_law 577 = .ok (.aload_n 0, 1) := by decide +kernel
theorem dL_law_578 : decode cL_law 578 = .ok (.iload_n 3, 1) := by decide +kernel
theorem dL_law_579 : decode cL_law 579 = .ok (.iconst 1, 1) := by decide +kernel
theorem dL_law_580 : decode cL_law 580 = .ok (.iadd, 1) := by decide +kernel
theorem dL_law_581 : decode cL_law 581 = .ok (.iaload, 1) := by decide +kernel
theorem dL_law_582 : decode cL_law 582 = .ok (.invokevirtual 87, 3) := by decide +kernel
theorem dL_law_585 : decode cL_law 585 = .ok (.if_icmp .eq 201, 3) := by decide +kernel
theorem dL_law_588 : decode cL_law 588 = .ok (.iconst 0, 1) := by decide +kernel
theorem dL_law_589 : decode cL_law 589 = .ok (.ireturn, 1) := by decide +kernel
theorem dL_law_590 : decode cL_law 590 = .ok (.aload_n 1, 1) := by decide +kernel
theorem dL_law_591 : decode cL_law 591 = .ok (.aload_n 0, 1) := by decide +kernel
theorem dL_law_592 : decode cL_law 592 = .ok (.iload_n 3, 1) := by decide +kernel
theorem dL_law_593 : decode cL_law 593 = .ok (.iconst 1, 1) := by decide +kernel
theorem dL_law_594 : decode cL_law 594 = .ok (.iadd, 1) := by decide +kernel
theorem dL_law_595 : decode cL_law 595 = .ok (.iaload, 1) := by decide +kernel
theorem dL_law_596 : decode cL_law 596 = .ok (.invokevirtual 88, 3) := by decide +kernel
theorem dL_law_599 : decode cL_law 599 = .ok (.aload_n 2, 1) := by decide +kernel
theorem dL_law_600 : decode cL_law 600 = .ok (.aload_n 0, 1) := by decide +kernel
theorem dL_law_601 : decode cL_law 601 = .ok (.iload_n 3, 1) := by decide +kernel
theorem dL_law_602 : decode cL_law 602 = .ok (.iconst 1, 1) := by decide +kernel
theorem dL_law_603 : decode cL_law 603 = .ok (.iadd, 1) := by decide +kernel
theorem dL_law_604 : decode cL_law 604 = .ok (.iaload, 1) := by decide +kernel
theorem dL_law_605 : decode cL_law 605 = .ok (.invokevirtual 92, 3) := by decide +kernel
theorem dL_law_608 : decode cL_law 608 = .ok (.lcmp, 1) := by decide +kernel
theorem dL_law_609 : decode cL_law 609 = .ok (.ifCond .eq 177, 3) := by decide +kernel
theorem dL_law_612 : decode cL_law 612 = .ok (.iconst 0, 1) := by decide +kernel
theorem dL_law_613 : decode cL_law 613 = .ok (.ireturn, 1) := by decide +kernel
theorem dL_law_614 : decode cL_law 614 = .ok (.aload_n 1, 1) := by decide +kernel
theorem dL_law_615 : decode cL_law 615 = .ok (.aload_n 0, 1) := by decide +kernel
theorem dL_law_616 : decode cL_law 616 = .ok (.iload_n 3, 1) := by decide +kernel
theorem dL_law_617 : decode cL_law 617 = .ok (.iconst 1, 1) := by decide +kernel
theorem dL_law_618 : decode cL_law 618 = .ok (.iadd, 1) := by decide +kernel
theorem dL_law_619 : decode cL_law 619 = .ok (.iaload, 1) := by decide +kernel
theorem dL_law_620 : decode cL_law 620 = .ok (.i2l, 1) := by decide +kernel
theorem dL_law_621 : decode cL_law 621 = .ok (.bipush 32, 2) := by decide +kernel
theorem dL_law_623 : decode cL_law 623 = .ok (.lshl, 1) := by decide +kernel
theorem dL_law_624 : decode cL_law 624 = .ok (.aload_n 0, 1) := by decide +kernel
theorem dL_law_625 : decode cL_law 625 = .ok (.iload_n 3, 1) := by decide +kernel
theorem dL_law_626 : decode cL_law 626 = .ok (.iconst 2, 1) := by decide +kernel
theorem dL_law_627 : decode cL_law 627 = .ok (.iadd, 1) := by decide +kernel
theorem dL_law_628 : decode cL_law 628 = .ok (.iaload, 1) := by decide +kernel
theorem dL_law_629 : decode cL_law 629 = .ok (.i2l, 1) := by decide +kernel
theorem dL_law_630 : decode cL_law 630 = .ok (.ldc2_w 40, 3) := by decide +kernel
theorem dL_law_633 : decode cL_law 633 = .ok (.land, 1) := by decide +kernel
theorem dL_law_634 : decode cL_law 634 = .ok (.lor, 1) := by decide +kernel
theorem dL_law_635 : decode cL_law 635 = .ok (.aload_n 0, 1) := by decide +kernel
theorem dL_law_636 : decode cL_law 636 = .ok (.iload_n 3, 1) := by decide +kernel
theorem dL_law_637 : decode cL_law 637 = .ok (.iconst 3, 1) := by decide +kernel
theorem dL_law_638 : decode cL_law 638 = .ok (.iadd, 1) := by decide +kernel
theorem dL_law_639 : decode cL_law 639 = .ok (.iaload, 1) := by decide +kernel
theorem dL_law_640 : decode cL_law 640 = .ok (.aload_n 0, 1) := by decide +kernel
theorem dL_law_641 : decode cL_law 641 = .ok (.iload_n 3, 1) := by decide +kernel
theorem dL_law_642 : decode cL_law 642 = .ok (.iconst 4, 1) := by decide +kernel
theorem dL_law_643 : decode cL_law 643 = .ok (.iadd, 1) := by decide +kernel
theorem dL_law_644 : decode cL_law 644 = .ok (.iaload, 1) := by decide +kernel
theorem dL_law_645 : decode cL_law 645 = .ok (.invokevirtual 93, 3) := by decide +kernel
theorem dL_law_648 : decode cL_law 648 = .ok (.aload_n 2, 1) := by decide +kernel
theorem dL_law_649 : decode cL_law 649 = .ok (.aload_n 0, 1) := by decide +kernel
theorem dL_law_650 : decode cL_law 650 = .ok (.iload_n 3, 1) := by decide +kernel
theorem dL_law_651 : decode cL_law 651 = .ok (.iconst 1, 1) := by decide +kernel
theorem dL_law_652 : decode cL_law 652 = .ok (.iadd, 1) := by decide +kernel
theorem dL_law_653 : decode cL_law 653 = .ok (.iaload, 1) := by decide +kernel
theorem dL_law_654 : decode cL_law 654 = .ok (.i2l, 1) := by decide +kernel
theorem dL_law_655 : decode cL_law 655 = .ok (.bipush 32, 2) := by decide +kernel
theorem dL_law_657 : decode cL_law 657 = .ok (.lshl, 1) := by decide +kernel
theorem dL_law_658 : decode cL_law 658 = .ok (.aload_n 0, 1) := by decide +kernel
theorem dL_law_659 : decode cL_law 659 = .ok (.iload_n 3, 1) := by decide +kernel
theorem dL_law_660 : decode cL_law 660 = .ok (.iconst 2, 1) := by decide +kernel
theorem dL_law_661 : decode cL_law 661 = .ok (.iadd, 1) := by decide +kernel
theorem dL_law_662 : decode cL_law 662 = .ok (.iaload, 1) := by decide +kernel
theorem dL_law_663 : decode cL_law 663 = .ok (.i2l, 1) := by decide +kernel
theorem dL_law_664 : decode cL_law 664 = .ok (.ldc2_w 40, 3) := by decide +kernel
theorem dL_law_667 : decode cL_law 667 = .ok (.land, 1) := by decide +kernel
theorem dL_law_668 : decode cL_law 668 = .ok (.lor, 1) := by decide +kernel
theorem dL_law_669 : decode cL_law 669 = .ok (.aload_n 0, 1) := by decide +kernel
theorem dL_law_670 : decode cL_law 670 = .ok (.iload_n 3, 1) := by decide +kernel
theorem dL_law_671 : decode cL_law 671 = .ok (.iconst 3, 1) := by decide +kernel
theorem dL_law_672 : decode cL_law 672 = .ok (.iadd, 1) := by decide +kernel
theorem dL_law_673 : decode cL_law 673 = .ok (.iaload, 1) := by decide +kernel
theorem dL_law_674 : decode cL_law 674 = .ok (.aload_n 0, 1) := by decide +kernel
theorem dL_law_675 : decode cL_law 675 = .ok (.iload_n 3, 1) := by decide +kernel
theorem dL_law_676 : decode cL_law 676 = .ok (.iconst 4, 1) := by decide +kernel
theorem dL_law_677 : decode cL_law 677 = .ok (.iadd, 1) := by decide +kernel
theorem dL_law_678 : decode cL_law 678 = .ok (.iaload, 1) := by decide +kernel
theorem dL_law_679 : decode cL_law 679 = .ok (.invokevirtual 97, 3) := by decide +kernel
theorem dL_law_682 : decode cL_law 682 = .ok (.if_icmp .eq 104, 3) := by decide +kernel
theorem dL_law_685 : decode cL_law 685 = .ok (.iconst 0, 1) := by decide +kernel
theorem dL_law_686 : decode cL_law 686 = .ok (.ireturn, 1) := by decide +kernel
theorem dL_law_687 : decode cL_law 687 = .ok (.aload_n 1, 1) := by decide +kernel
theorem dL_law_688 : decode cL_law 688 = .ok (.aload_n 0, 1) := by decide +kernel
theorem dL_law_689 : decode cL_law 689 = .ok (.iload_n 3, 1) := by decide +kernel
theorem dL_law_690 : decode cL_law 690 = .ok (.iconst 1, 1) := by decide +kernel
theorem dL_law_691 : decode cL_law 691 = .ok (.iadd, 1) := by decide +kernel
theorem dL_law_692 : decode cL_law 692 = .ok (.iaload, 1) := by decide +kernel
theorem dL_law_693 : decode cL_law 693 = .ok (.invokevirtual 98, 3) := by decide +kernel
theorem dL_law_696 : decode cL_law 696 = .ok (.aload_n 2, 1) := by decide +kernel
theorem dL_law_697 : decode cL_law 697 = .ok (.aload_n 0, 1) := by decide +kernel
theorem dL_law_698 : decode cL_law 698 = .ok (.iload_n 3, 1) := by decide +kernel
theorem dL_law_699 : decode cL_law 699 = .ok (.iconst 1, 1) := by decide +kernel
theorem dL_law_700 : decode cL_law 700 = .ok (.iadd, 1) := by decide +kernel
theorem dL_law_701 : decode cL_law 701 = .ok (.iaload, 1) := by decide +kernel
theorem dL_law_702 : decode cL_law 702 = .ok (.invokevirtual 101, 3) := by decide +kernel
theorem dL_law_705 : decode cL_law 705 = .ok (.if_icmp .eq 81, 3) := by decide +kernel
theorem dL_law_708 : decode cL_law 708 = .ok (.iconst 0, 1) := by decide +kernel
theorem dL_law_709 : decode cL_law 709 = .ok (.ireturn, 1) := by decide +kernel
theorem dL_law_710 : decode cL_law 710 = .ok (.aload_n 1, 1) := by decide +kernel
theorem dL_law_711 : decode cL_law 711 = .ok (.invokevirtual 102, 3) := by decide +kernel
theorem dL_law_714 : decode cL_law 714 = .ok (.aload_n 2, 1) := by decide +kernel
theorem dL_law_715 : decode cL_law 715 = .ok (.invokevirtual 105, 3) := by decide +kernel
theorem dL_law_718 : decode cL_law 718 = .ok (.if_icmp .eq 68, 3) := by decide +kernel
theorem dL_law_721 : decode cL_law 721 = .ok (.iconst 0, 1) := by decide +kernel
theorem dL_law_722 : decode cL_law 722 = .ok (.ireturn, 1) := by decide +kernel
theorem dL_law_723 : decode cL_law 723 = .ok (.aload_n 1, 1) := by decide +kernel
theorem dL_law_724 : decode cL_law 724 = .ok (.invokevirtual 106, 3) := by decide +kernel
theorem dL_law_727 : decode cL_law 727 = .ok (.aload_n 2, 1) := by decide +kernel
theorem dL_law_728 : decode cL_law 728 = .ok (.invokevirtual 109, 3) := by decide +kernel
theorem dL_law_731 : decode cL_law 731 = .ok (.if_icmp .eq 55, 3) := by decide +kernel
theorem dL_law_734 : decode cL_law 734 = .ok (.iconst 0, 1) := by decide +kernel
theorem dL_law_735 : decode cL_law 735 = .ok (.ireturn, 1) := by decide +kernel
theorem dL_law_736 : decode cL_law 736 = .ok (.aload_n 1, 1) := by decide +kernel
theorem dL_law_737 : decode cL_law 737 = .ok (.invokevirtual 110, 3) := by decide +kernel
theorem dL_law_740 : decode cL_law 740 = .ok (.aload_n 2, 1) := by decide +kernel
theorem dL_law_741 : decode cL_law 741 = .ok (.invokevirtual 113, 3) := by decide +kernel
theorem dL_law_744 : decode cL_law 744 = .ok (.if_icmp .eq 42, 3) := by decide +kernel
theorem dL_law_747 : decode cL_law 747 = .ok (.iconst 0, 1) := by decide +kernel
theorem dL_law_748 : decode cL_law 748 = .ok (.ireturn, 1) := by decide +kernel
theorem dL_law_749 : decode cL_law 749 = .ok (.aload_n 1, 1) := by decide +kernel
theorem dL_law_750 : decode cL_law 750 = .ok (.aload_n 0, 1) := by decide +kernel
theorem dL_law_751 : decode cL_law 751 = .ok (.iload_n 3, 1) := by decide +kernel
theorem dL_law_752 : decode cL_law 752 = .ok (.iconst 1, 1) := by decide +kernel
theorem dL_law_753 : decode cL_law 753 = .ok (.iadd, 1) := by decide +kernel
theorem dL_law_754 : decode cL_law 754 = .ok (.iaload, 1) := by decide +kernel
theorem dL_law_755 : decode cL_law 755 = .ok (.invokevirtual 114, 3) := by decide +kernel
theorem dL_law_758 : decode cL_law 758 = .ok (.aload_n 2, 1) := by decide +kernel
theorem dL_law_759 : decode cL_law 759 = .ok (.aload_n 0, 1) := by decide +kernel
theorem dL_law_760 : decode cL_law 760 = .ok (.iload_n 3, 1) := by decide +kernel
theorem dL_law_761 : decode cL_law 761 = .ok (.iconst 1, 1) := by decide +kernel
theorem dL_law_762 : decode cL_law 762 = .ok (.iadd, 1) := by decide +kernel
theorem dL_law_763 : decode cL_law 763 = .ok (.iaload, 1) := by decide +kernel
theorem dL_law_764 : decode cL_law 764 = .ok (.invokevirtual 117, 3) := by decide +kernel
theorem dL_law_767 : decode cL_law 767 = .ok (.if_icmp .eq 19, 3) := by decide +kernel
theorem dL_law_770 : decode cL_law 770 = .ok (.iconst 0, 1) := by decide +kernel
theorem dL_law_771 : decode cL_law 771 = .ok (.ireturn, 1) := by decide +kernel
theorem dL_law_772 : decode cL_law 772 = .ok (.aload_n 1, 1) := by decide +kernel
theorem dL_law_773 : decode cL_law 773 = .ok (.invokevirtual 118, 3) := by decide +kernel
theorem dL_law_776 : decode cL_law 776 = .ok (.aload_n 2, 1) := by decide +kernel
theorem dL_law_777 : decode cL_law 777 = .ok (.invokevirtual 121, 3) := by decide +kernel
theorem dL_law_780 : decode cL_law 780 = .ok (.lcmp, 1) := by decide +kernel
theorem dL_law_781 : decode cL_law 781 = .ok (.ifCond .eq 5, 3) := by decide +kernel
theorem dL_law_784 : decode cL_law 784 = .ok (.iconst 0, 1) := by decide +kernel
theorem dL_law_785 : decode cL_law 785 = .ok (.ireturn, 1) := by decide +kernel
theorem dL_law_786 : decode cL_law 786 = .ok (.iinc 3 5, 3) := by decide +kernel
theorem dL_law_789 : decode cL_law 789 = .ok (.goto (-771), 3) := by decide +kernel
theorem dL_law_792 : decode cL_law 792 = .ok (.iconst 1, 1) := by decide +kernel
theorem dL_law_793 : decode cL_law 793 = .ok (.ireturn, 1) := by decide +kernel
end
section
/-! THE FRAME OF ALL WALKS: the whole heap as one function of numbers. A cell has a number k (its shape in 'shapes'), its address is 'ad w k'; sg k j is the int at place j of cell k (an array's element, an object's field); tu is the reference's one long field. -/
def TG : List Cond := lw_tbl.filter goodWord
theorem TG_good : ∀ w ∈ TG, w ∈ TG ∧ ((w.onTables && w.keeps) = true ∨ ∃ ty, w = .arrayClass ty) := fun w h => ⟨h, good_of_word (List.mem_filter.mp h).2⟩
theorem TG_in {w : Cond} (i : Nat) (h : lw_tbl[i]? = some w) (g : goodWord w = true) : w ∈ TG := List.mem_filter.mpr ⟨List.mem_of_getElem? h, g⟩
abbrev Sg : Type := Nat → Nat → Int32
abbrev Shp : Type := (Nat × Nat) ⊕ (Nat × List (Nat × Nat))
abbrev GW : Type := Launch × (Nat → ClassId) × (Nat → Nat → Nat) × (Nat → Nat) × (Nat → ClassId) × (Nat → Prop)
def gl (w : GW) : Launch := w.1
def gD (w : GW) : va_G := (w.2.1, w.2.2.1)
def ad (w : GW) (k : Nat) : Nat := w.2.2.2.1 k
def gc (w : GW) (k : Nat) : ClassId := w.2.2.2.2.1 k
def gA (w : GW) : Nat → Prop := w.2.2.2.2.2
/-- a field's value by its kind: 0 an int, 1 a reference to the cell of that number, 2 the long -/
def va1 (w : GW) (x : Int32) (tu : Int64) (q : Nat × Nat) : Value := if q.1 = 0 then .int x else if q.1 = 1 then .ref (ad w q.2) else .long tu
def ce (w : GW) (sg : Sg) (tu : Int64) (k : Nat) : Shp → va_E
  | .inl (0, n) => .inl (gc w 0, n, .inl (sg k))
  | .inl (1, n) => .inl (gc w 1, n, .inl (sg k))
  | .inl (_, n) => .inl (gc w 2, n, .inr (.inr (.inr (.inr (fun j => some (ad w (13 + 5 * j)))))))
  | .inr (ci, fs) => .inr (ci, fs.mapIdx (fun j q => va1 w (sg k j) tu q))
def shapes : List Shp := [
  .inr (4, [(1, 1), (1, 6), (1, 11), (1, 38), (1, 40), (0, 0), (0, 0), (0, 0)]),
  .inr (3, [(1, 2), (1, 3), (1, 4), (1, 5), (0, 0), (0, 0), (0, 0), (0, 0)]), .inl (0, 6), .inl (0, 6), .inl (0, 12), .inl (0, 7),
  .inr (3, [(1, 7), (1, 8), (1, 9), (1, 10), (0, 0), (0, 0), (0, 0), (0, 0)]), .inl (0, 6), .inl (0, 6), .inl (0, 12), .inl (0, 7),
  .inr (1, [(1, 12), (0, 0), (0, 0)]), .inl (2, 5),
  .inr (3, [(1, 14), (1, 15), (1, 16), (1, 17), (0, 0), (0, 0), (0, 0), (0, 0)]), .inl (0, 6), .inl (0, 6), .inl (0, 12), .inl (0, 7),
  .inr (3, [(1, 19), (1, 20), (1, 21), (1, 22), (0, 0), (0, 0), (0, 0), (0, 0)]), .inl (0, 6), .inl (0, 6), .inl (0, 12), .inl (0, 7),
  .inr (3, [(1, 24), (1, 25), (1, 26), (1, 27), (0, 0), (0, 0), (0, 0), (0, 0)]), .inl (0, 6), .inl (0, 6), .inl (0, 12), .inl (0, 7),
  .inr (3, [(1, 29), (1, 30), (1, 31), (1, 32), (0, 0), (0, 0), (0, 0), (0, 0)]), .inl (0, 6), .inl (0, 6), .inl (0, 12), .inl (0, 7),
  .inr (3, [(1, 34), (1, 35), (1, 36), (1, 37), (0, 0), (0, 0), (0, 0), (0, 0)]), .inl (0, 6), .inl (0, 6), .inl (0, 12), .inl (0, 7),
  .inr (2, [(1, 39), (0, 0)]), .inl (1, 120),
  .inr (0, [(1, 41), (1, 42), (1, 43), (0, 0), (0, 0), (0, 0)]), .inl (0, 60), .inl (0, 60), .inl (0, 60),
  .inr (5, [(1, 45), (1, 46), (1, 47), (0, 0), (1, 48), (1, 49), (0, 0), (1, 50), (1, 51), (1, 52), (1, 53), (1, 54), (0, 0), (0, 0), (0, 0), (2, 0)]),
  .inl (0, 35), .inl (0, 35), .inl (0, 175), .inl (0, 3), .inl (0, 120), .inl (0, 6), .inl (0, 12), .inl (0, 7), .inl (0, 60), .inl (0, 120)]
/-- the whole world as the kit has worlds -/
def wl (w : GW) (sg : Sg) (tu : Int64) : va_W := shapes.mapIdx (fun k sh => (ad w k, ce w sg tu k sh))
theorem wl_get {w : GW} {sg : Sg} {tu : Int64} {k : Nat} {sh : Shp} (h : shapes[k]? = some sh) : (wl w sg tu)[k]? = some (ad w k, ce w sg tu k sh) := by
  simp [wl, List.getElem?_mapIdx, h]
theorem wl_inv {w : GW} {sg : Sg} {tu : Int64} {k : Nat} {q : Nat × va_E} (h : (wl w sg tu)[k]? = some q) : ∃ sh, shapes[k]? = some sh ∧ q = (ad w k, ce w sg tu k sh) := by
  simp only [wl, List.getElem?_mapIdx] at h
  cases hs : shapes[k]? with
  | none => rw [hs] at h; cases h
  | some sh => rw [hs] at h; exact ⟨sh, rfl, (Option.some.inj h).symm⟩
theorem shapes_lt {k : Nat} {sh : Shp} (h : shapes[k]? = some sh) : k < 55 := (List.getElem?_eq_some_iff.mp h).1
def AdOk (w : GW) : Prop := (∀ i j, i < 55 → j < 55 → ad w i = ad w j → i = j) ∧ ∀ i, i < 55 → gA w (ad w i)
theorem wl_D {w : GW} {sg : Sg} {tu : Int64} (h : AdOk w) : va_D (gA w) (wl w sg tu) := by
  refine ⟨fun i j p q hp hq e => ?_, fun k q hq => ?_⟩
  · obtain ⟨sh, h1, rfl⟩ := wl_inv hp
    obtain ⟨sh2, h2, rfl⟩ := wl_inv hq
    exact h.1 i j (shapes_lt h1) (shapes_lt h2) e
  · obtain ⟨sh, h1, rfl⟩ := wl_inv hq
    exact h.2 k (shapes_lt h1)
def Hp (w : GW) (sg : Sg) (tu : Int64) (H : Heap) : Prop := va_P (gD w) vwCl (wl w sg tu) H
theorem wl_ext {w : GW} {a : va_W} {sg : Sg} {tu : Int64} (hl : a.length = 55) (h : ∀ k sh, shapes[k]? = some sh → a[k]? = some (ad w k, ce w sg tu k sh)) : a = wl w sg tu := by
  apply List.ext_getElem?
  intro i
  cases hs : shapes[i]? with
  | some sh => rw [h i sh hs, wl_get hs]
  | none =>
    have h1 : 55 ≤ i := List.getElem?_eq_none_iff.mp hs
    have h2 : (wl w sg tu).length = 55 := by simp only [wl, List.length_mapIdx]; rfl
    rw [List.getElem?_eq_none (by omega), List.getElem?_eq_none (by omega)]
theorem wl_len {w : GW} {sg : Sg} {tu : Int64} : (wl w sg tu).length = 55 := by simp only [wl, List.length_mapIdx]; rfl
theorem wl_set {w : GW} {sg sg' : Sg} {tu tu' : Int64} {k : Nat} {sh : Shp} {e : va_E} (hs : shapes[k]? = some sh) (he : e = ce w sg' tu' k sh) (ho : ∀ j sh', j ≠ k → shapes[j]? = some sh' → ce w sg' tu' j sh' = ce w sg tu j sh') : (wl w sg tu).set k (ad w k, e) = wl w sg' tu' := by
  subst he
  refine wl_ext (by rw [List.length_set]; exact wl_len) fun j sh' hj => ?_
  by_cases hk : j = k
  · subst hk
    rw [List.getElem?_set_self (by rw [wl_len]; exact shapes_lt hs)]
    rw [hs] at hj
    cases hj
    rfl
  · rw [List.getElem?_set_ne (Ne.symm hk), wl_get hj, ho j sh' hk hj]
/-- one cell's contents put -/
def us (sg : Sg) (k : Nat) (f : Nat → Int32) : Sg := fun i => if i = k then f else sg i
theorem us_same (sg : Sg) (k : Nat) (f : Nat → Int32) : us sg k f k = f := if_pos rfl
theorem us_ne {sg : Sg} {k i : Nat} {f : Nat → Int32} (h : i ≠ k) : us sg k f i = sg i := if_neg h
theorem ce_ne {w : GW} {sg : Sg} {tu : Int64} {k : Nat} {f : Nat → Int32} (j : Nat) (sh : Shp) (h : j ≠ k) : ce w (us sg k f) tu j sh = ce w sg tu j sh := by
  unfold ce
  split <;> simp only [us_ne h]
/-- which places of a cell count -/
def lnS : Shp → Nat
  | .inl (_, n) => n
  | .inr (_, fs) => fs.length
def ln (k : Nat) : Nat := match shapes[k]? with
  | some sh => lnS sh
  | none => 0
def Sq (sg sg' : Sg) : Prop := ∀ k j, j < ln k → sg k j = sg' k j
theorem arrV_ext {cI : ClassId} {n : Nat} {f g : Nat → Value} (h : ∀ j, j < n → f j = g j) : arrV cI n f = arrV cI n g := by
  unfold arrV
  congr 1
  apply Array.ext
  · simp
  · intro i h1 h2
    simp at h1
    simp [h i h1]
theorem ce_sq {w : GW} {sg sg' : Sg} {tu : Int64} {H : Heap} {a k : Nat} {D : va_G} {cl : List vw_C} : ∀ (sh : Shp), (∀ j, j < lnS sh → sg k j = sg' k j) → va_at D cl (a, ce w sg tu k sh) H → va_at D cl (a, ce w sg' tu k sh) H
  | .inl (0, n), hl, h => by
    have h1 : H[a]? = some (vp_cell (gc w 0) (n, .inl (sg k))) := h
    show H[a]? = some (vp_cell (gc w 0) (n, .inl (sg' k)))
    rw [h1, vp_cell_i, vp_cell_i, arrV_ext fun j hj => by rw [hl j hj]]
  | .inl (1, n), hl, h => by
    have h1 : H[a]? = some (vp_cell (gc w 1) (n, .inl (sg k))) := h
    show H[a]? = some (vp_cell (gc w 1) (n, .inl (sg' k)))
    rw [h1, vp_cell_i, vp_cell_i, arrV_ext fun j hj => by rw [hl j hj]]
  | .inl (_ + 2, n), hl, h => h
  | .inr (ci, fs), hl, h => by
    obtain ⟨r, h1, h2⟩ := h
    refine ⟨r, h1, h2.to fun j _ => ?_⟩
    simp only [vp_V, List.getD_eq_getElem?_getD, List.getElem?_mapIdx]
    cases hf : fs[j]? with
    | none => rfl
    | some q =>
      have : j < fs.length := (List.getElem?_eq_some_iff.mp hf).1
      simp only [Option.map_some, Option.getD_some, hl j this]
theorem Hp.sq {w : GW} {sg sg' : Sg} {tu : Int64} {H : Heap} (hq : Sq sg sg') (h : Hp w sg tu H) : Hp w sg' tu H := by
  intro k q hk
  obtain ⟨sh, hs, rfl⟩ := wl_inv hk
  exact ce_sq sh (fun j hj => hq k j (by unfold ln; rw [hs]; exact hj)) (h k _ (wl_get hs))
def TN : List (String × Nat × MethodName × String) := [(RX4, 9, yX3_init, "DrumCrank"), (RX1, 24, yX3_init, "DrumCrank"), (RX4, 28, yX2_init, "DrumCrank"), (RX4, 35, yX0_init, "DrumCrank"), (RX3, 45, yX4_within, "DrumCrank"), (RX3, 53, yX4_number, "DrumCrank"), (RX3, 57, yX4_putFigures, "DrumCrank"), (RX3, 85, yX4_canMultiply, "DrumCrank"), (RX3, 92, yX4_figuresToMultiply, "DrumCrank"), (RX3, 95, yX4_turnsForFigure, "DrumCrank"), (RX3, 99, yX4_leftBehindFigure, "DrumCrank"), (RX2, 21, yX4_within, "DrumCrank"), (RX0, 63, yX4_within, "DrumCrank")]
def KK (w : GW) (U : State) : Prop := va_K (gD w) vwCl [(gc w 0, .int), (gc w 1, .byte), (gc w 2, .object RX3)] U ∧ (∀ q ∈ TN, va_Nw (.methodLinkNest q.1 q.2.1 q.2.2.1 q.2.2.2) U) ∧ AdOk w
theorem KK.same {w : GW} {u U : State} (h : u.vm = U.vm) (hK : KK w u) : KK w U := ⟨va_K.moved (by rw [h]; exact Vm.Alike.refl _) hK.1, fun q hq => va_Nw.same rfl h (hK.2.1 q hq), hK.2.2⟩
theorem KK.warm {w : GW} {u U : State} (h : u.WarmedH U.vm) (hK : KK w u) : KK w U := ⟨va_K.moved h.alike hK.1, fun q hq => va_Nw.warmM h (hK.2.1 q hq), hK.2.2⟩
/-! the machine's side of a walk, in one word: p l e R s m args below meth c cells slots Q -/
abbrev GZ : Type := Program × Launch × Env × Room × State × MethodId × Array Value × List Frame × Method × Code × Nat × Nat × (State → Prop)
def G (z : GZ) (w : GW) (nL : Nat) (sg : Sg) (tu : Int64) (pc : Nat) (L : List (Nat × Value)) (S : List Value) : Prop := match z with
  | (p, l, e, R, s, m, args, below, meth, c, cells, slots, Q) => ∀ (H : Heap) (ls : Array Slot) (locs : List Loc), Hp w sg tu H → va_S (gA w) s.heap H locs → lv_has ls nL L → W p l e R s m args below meth c H locs cells slots Q (F0 m pc ls S)
def Cx (z : GZ) (w : GW) (cc : ByteArray) (nL : Nat) (own : String) (d : Nat) : Prop := match z with
  | (p, l, _, R, s, m, args, _, _, c, cells, slots, _) => l = gl w ∧ p.tables.exec = Jvm.exec ∧ c.code = cc ∧ c.maxLocals = nL ∧ s.vm.findClass own = some m.cls ∧ (∀ x ∈ TG, x.before args s = true) ∧ KK w s ∧ (d ≤ R.frames ∧ 32 * d ≤ R.locals) ∧ cells ≤ R.cells ∧ slots ≤ R.slots
def KQ (w : GW) (r : Option Value) (sg : Sg) (tu : Int64) : Array Value → State → Outcome → State → Prop := fun _ st oc t => oc = .returned r ∧ Hp w sg tu t.heap ∧ va_F (gA w) st t
def Ends (z : GZ) (w : GW) (ret : Option FieldType) (r : Option Value) (sg : Sg) (tu : Int64) : Prop := match z with
  | (_, _, _, _, s, _, args, below, meth, _, cells, slots, Q) => meth.sig.returnType = ret ∧ meth.locks = false ∧ Q = MQ below (KQ w r sg tu) args s cells slots (gA w)
def rmD (d : Nat) : Room := { frames := d, cells := 0, slots := 0, locals := 32 * d }
def kPc (w : GW) (as : List Value) (sg : Sg) (tu : Int64) : Array Value → State → Prop := va_Pc as (fun U => Hp w sg tu U.heap ∧ KK w U)
/-- a method's contract: with these arguments, from this heap, it answers r and leaves that heap -/
def Kt (w : GW) (y : MethodName) (cc : ByteArray) (n : Nat) (ret : Option FieldType) (d : Nat) (as : List Value) (sg : Sg) (tu : Int64) (r : Option Value) (sg' : Sg) (tu' : Int64) : Prop := Met (gl w) y (.code y cc n ret :: TG) (rmD d) (kPc w as sg tu) (KQ w r sg' tu') 0 0 (gA w)
set_option maxHeartbeats 4000000 in
theorem Kt.of {w : GW} {y : MethodName} {cc : ByteArray} {n : Nat} {ret : Option FieldType} {d : Nat} {as : List Value} {sg : Sg} {tu : Int64} {r : Option Value} {sg' : Sg} {tu' : Int64} {L0 : List (Nat × Value)} (hn : plainName y.cls = true) (hL : lv_args 0 as = L0) (hlen : (lg_sl as).length ≤ n) (body : ∀ z, Cx z w cc n y.cls d → Ends z w ret r sg' tu' → G z w n sg tu 0 L0 []) : Kt w y cc n ret d as sg tu r sg' tu' := by
  refine Met.ofW (cc := cc) (maxL := n) (ret := ret) hn rfl ?_
  intro p e s m args below meth c s₁ B hml hv
  obtain ⟨rfl, hH, hK⟩ := hv
  have hts := atoms_spec (ws := .code y cc n ret :: TG) B.pre
  have hown : s.vm.findClass y.cls = some m.cls := findClass_of_methodNamed B.named
  have h := body (p, gl w, e, rmD d, s, m, as.toArray, below, meth, c, 0, 0, MQ below (KQ w r sg' tu') as.toArray s 0 0 (gA w)) ⟨rfl, B.exec, B.bytes, hml, hown, fun x hx => hts x (List.mem_cons_of_mem _ hx), hK, ⟨Nat.le_refl _, Nat.le_refl _⟩, Nat.zero_le _, Nat.zero_le _⟩ ⟨B.returns, B.notSynchronized, rfl⟩
  rw [lg_entry_eq]
  exact h s.heap _ [] hH va_S.rf (by rw [← hL]; exact lv_entry as hlen)
def Mt (y : MethodName) (bc : ByteArray) (n : Nat) (ret : Option FieldType) (np : Nat) : Prop := Cond.code y bc n ret ∈ TG ∧ Cond.initialized y.cls ∈ TG ∧ (y.cls ≠ "java/lang/invoke/MethodHandle" ∧ y.cls ≠ "java/lang/invoke/VarHandle" ∧ (parseMethodDescriptor y.desc).map (fun d => d.parameters.length) = some np) ∧ n ≤ 13
theorem kPc_blind {w : GW} {as : List Value} {sg : Sg} {tu : Int64} : FrameBlind (kPc w as sg tu) := fun a U g mk q => ⟨q.1, q.2.1, KK.same (u := U) (U := U.calling g mk a) rfl q.2.2⟩
theorem mt_good {y : MethodName} {bc : ByteArray} {n np : Nat} {ret : Option FieldType} (hm : Mt y bc n ret np) : GoodIn TG (.code y bc n ret :: TG) := fun x h => (List.mem_cons.mp h).elim (fun q => by rw [q]; exact TG_good _ hm.1) (TG_good x)
section GC
variable {z : GZ} {w : GW} {cc : ByteArray} {nL : Nat} {own : String} {d : Nat} {sg : Sg} {tu : Int64} {pc : Nat} {L : List (Nat × Value)} {rest : List Value}
variable {y : MethodName} {bc : ByteArray} {n np d' idx : Nat} {ret : Option FieldType} {As : List Value} {r : Option Value} {sg' : Sg} {tu' : Int64}
theorem g_run {p : Program} {l : Launch} {e : Env} {R : Room} {s : State} {m : MethodId} {args : Array Value} {below : List Frame} {meth : Method} {c : Code} {cells slots : Nat} {Q : State → Prop} {st0 : List Value} {a : Array Value}
    (hr : ∀ (H : Heap) (ls : Array Slot) (locs : List Loc), Hp w sg tu H → va_S (gA w) s.heap H locs → lv_has ls nL L → va_Run p l e R s m args below meth c H locs cells slots 0 0 (F0 m pc ls st0) rest (KQ w r sg' tu' a) (gA w))
    (k : G (p, l, e, R, s, m, args, below, meth, c, cells, slots, Q) w nL sg' tu' (pc + 3) L (r.toList ++ rest)) : G (p, l, e, R, s, m, args, below, meth, c, cells, slots, Q) w nL sg tu pc L st0 := by
  intro H ls locs hH hS hl T hT X
  obtain ⟨v, st₀, t, T', Lc, h0, X', hL, e1, e2, ⟨hv, hH', hz, hk⟩, st⟩ := hr H ls locs hH hS hl T hT X
  cases hv
  rw [h0] at hz hk
  obtain ⟨t2, a1, b1⟩ := k T'.heap ls (locs ++ Lc) (by rw [e1]; exact hH') ⟨Nat.le_trans hS.1 (by rw [e1]; exact hz), fun q h1 h2 => by rw [e1, hk q (Nat.lt_of_lt_of_le h1 hS.1) h2]; exact hS.2.1 q h1 h2, fun q hq => by
      rcases List.mem_append.mp hq with h | h
      · exact hS.2.2 q h
      · exact hL q h⟩ hl T' rfl X'
  exact ⟨t2, st t2 a1, b1⟩
theorem g_callS (C : Cx z w cc nL own d) (hM : Kt w y bc n ret d' As sg tu r sg' tu') (hm : Mt y bc n ret np) (hlink : Cond.methodLink own idx y ∈ TG) (hst : Cond.static y ∈ TG) (hd : d' + 1 ≤ d) (hn : As.length = np) (hrest : (rest.map fun v => v.category).sum ≤ 8) (hdg : decode cc pc = .ok (.invokestatic idx, 3))
    (k : G z w nL sg' tu' (pc + 3) L (r.toList ++ rest)) : G z w nL sg tu pc L (As.reverse ++ rest) := by
  obtain ⟨p, l, e, R, s, m, args, below, meth, c, cells, slots, Q⟩ := z
  obtain ⟨rfl, hx, hb, hml, hown, hts, hK, hR, hc, hs⟩ := C
  refine g_run (a := As.toArray) (fun H ls locs hH hS hl => ?_) k
  exact va_runS (Ts := TG) (own := own) (nL := nL) ⟨hx, hb, hml, hown, hts⟩ hM ⟨callB_of np hts (mt_good hm) rfl rfl rfl (hts _ hm.2.1) (hts _ hlink) hm.2.2.1 ⟨by show d' + 1 ≤ _; omega, by have := hm.2.2.2; show 8 + (n + 11) + 32 * d' ≤ _; omega⟩, hts _ hst⟩ ⟨kPc_blind, fun U hU hW => ⟨rfl, by rw [hU]; exact hH, hK.warm hW⟩⟩ rfl hn hl.1 rfl (lv_room hrest) hdg ⟨hc, hs⟩
theorem g_callSN (C : Cx z w cc nL own d) (hM : Kt w y bc n ret d' As sg tu r sg' tu') (hm : Mt y bc n ret np) {host : String} (hlink : (own, idx, y, host) ∈ TN) (hst : Cond.static y ∈ TG) (hd : d' + 1 ≤ d) (hn : As.length = np) (hrest : (rest.map fun v => v.category).sum ≤ 8) (hdg : decode cc pc = .ok (.invokestatic idx, 3))
    (k : G z w nL sg' tu' (pc + 3) L (r.toList ++ rest)) : G z w nL sg tu pc L (As.reverse ++ rest) := by
  obtain ⟨p, l, e, R, s, m, args, below, meth, c, cells, slots, Q⟩ := z
  obtain ⟨rfl, hx, hb, hml, hown, hts, hK, hR, hc, hs⟩ := C
  refine g_run (a := As.toArray) (fun H ls locs hH hS hl => ?_) k
  exact va_runSN (Ts := TG) (own := own) (nL := nL) (host := host) ⟨hx, hb, hml, hown, hts⟩ hM ⟨va_cnB np hts (mt_good hm) rfl rfl rfl (hK.2.1 _ hlink) (hts _ hm.2.1) hm.2.2.1 ⟨by show d' + 1 ≤ _; omega, by have := hm.2.2.2; show 8 + (n + 11) + 32 * d' ≤ _; omega⟩, hts _ hst, trivial⟩ ⟨kPc_blind, fun U hU hW => ⟨rfl, by rw [hU]; exact hH, hK.warm hW⟩⟩ rfl hn hl.1 rfl (lv_room hrest) hdg ⟨hc, hs⟩
theorem g_callV (C : Cx z w cc nL own d) {q ci N : Nat} {fs : List (Nat × Nat)} {T : u_T} (hM : Kt w y bc n ret d' (.ref (ad w q) :: As) sg tu r sg' tu') (hm : Mt y bc n ret np) (hq : shapes[q]? = some (.inr (ci, fs))) (hci : vwCl[ci]? = some (y.cls, T, N)) (hlink : Cond.methodLink own idx y ∈ TG) (hin : Cond.instanceMethod y ∈ TG) (hse : Cond.selects y.cls y y ∈ TG) (hd : d' + 1 ≤ d) (hn : As.length = np) (hrest : (rest.map fun v => v.category).sum ≤ 8) (hdg : decode cc pc = .ok (.invokevirtual idx, 3))
    (k : G z w nL sg' tu' (pc + 3) L (r.toList ++ rest)) : G z w nL sg tu pc L (As.reverse ++ .ref (ad w q) :: rest) := by
  obtain ⟨p, l, e, R, s, m, args, below, meth, c, cells, slots, Q⟩ := z
  obtain ⟨rfl, hx, hb, hml, hown, hts, hK, hR, hc, hs⟩ := C
  refine g_run (a := (Value.ref (ad w q) :: As).toArray) (fun H ls locs hH hS hl => ?_) k
  exact va_runV (Ts := TG) (own := own) (nL := nL) (C := y.cls) ⟨hx, hb, hml, hown, hts⟩ hM ⟨callB_of np hts (mt_good hm) rfl rfl rfl (hts _ hm.2.1) (hts _ hlink) hm.2.2.1 ⟨by show d' + 1 ≤ _; omega, by have := hm.2.2.2; show 8 + (n + 11) + 32 * d' ≤ _; omega⟩, hts _ hin, hts _ hse⟩ ⟨kPc_blind, va_recv hK.1 hH hci (wl_get hq), fun U hU hW => ⟨rfl, by rw [hU]; exact hH, hK.warm hW⟩⟩ rfl hn hl.1 rfl (lv_room hrest) hdg ⟨hc, hs⟩
end GC
section GR
variable {z : GZ} {w : GW} {cc : ByteArray} {nL : Nat} {own : String} {d : Nat} {sg : Sg} {tu : Int64} {pc : Nat} {L : List (Nat × Value)} {S : List Value}
theorem g_sq {sg' : Sg} (h : Sq sg sg') (k : G z w nL sg' tu pc L S) : G z w nL sg tu pc L S := by
  obtain ⟨p, l, e, R, s, m, args, below, meth, c, cells, slots, Q⟩ := z
  exact fun H ls locs hH hS hl => k H ls locs (Hp.sq h hH) hS hl
theorem g_sub {L' : List (Nat × Value)} (ks : List Nat) (h : lv_pick L ks = L') (k : G z w nL sg tu pc L' S) : G z w nL sg tu pc L S := by
  obtain ⟨p, l, e, R, s, m, args, below, meth, c, cells, slots, Q⟩ := z
  exact fun H ls locs hH hS hl => k H ls locs hH hS (lv_sub hl ks h)
theorem g_top {x y : Int32} (h : x = y) (k : G z w nL sg tu pc L (.int y :: S)) : G z w nL sg tu pc L (.int x :: S) := by rw [h]; exact k
theorem g_topl {x y : Int64} (h : x = y) (k : G z w nL sg tu pc L (.long y :: S)) : G z w nL sg tu pc L (.long x :: S) := by rw [h]; exact k
theorem g_iret (C : Cx z w cc nL own d) {r : Int32} {sg' : Sg} {tu' : Int64} (E : Ends z w (some .int) (some (.int r)) sg' tu') {v : Int32} (hdg : decode cc pc = .ok (.ireturn, 1)) (hv : v = r) (hs : Sq sg sg') (ht : tu = tu') : G z w nL sg tu pc L [.int v] := by
  obtain ⟨p, l, e, R, s, m, args, below, meth, c, cells, slots, Q⟩ := z
  obtain ⟨-, hx, hb, -⟩ := C
  obtain ⟨hr, hlocks, rfl⟩ := E
  subst hv; subst ht
  exact fun H ls locs hH hS hl => W.iret hx hb hr (fun t ht hW => ⟨rfl, by rw [ht]; exact Hp.sq hs hH, hS.F ht⟩) hS.2.2 hdg hlocks
theorem g_zret (C : Cx z w cc nL own d) {r : Int32} {sg' : Sg} {tu' : Int64} (E : Ends z w (some .boolean) (some (.int r)) sg' tu') {v : Int32} (hdg : decode cc pc = .ok (.ireturn, 1)) (hn : narrow .boolean (.int v) = .int v) (hv : v = r) (hs : Sq sg sg') (ht : tu = tu') : G z w nL sg tu pc L [.int v] := by
  obtain ⟨p, l, e, R, s, m, args, below, meth, c, cells, slots, Q⟩ := z
  obtain ⟨-, hx, hb, -⟩ := C
  obtain ⟨hr, hlocks, rfl⟩ := E
  subst hv; subst ht
  exact fun H ls locs hH hS hl => W.zret hx hb hr hn (fun t ht hW => ⟨rfl, by rw [ht]; exact Hp.sq hs hH, hS.F ht⟩) hS.2.2 hdg hlocks
theorem g_lret (C : Cx z w cc nL own d) {r : Int64} {sg' : Sg} {tu' : Int64} (E : Ends z w (some .long) (some (.long r)) sg' tu') {v : Int64} (hdg : decode cc pc = .ok (.lreturn, 1)) (hv : v = r) (hs : Sq sg sg') (ht : tu = tu') : G z w nL sg tu pc L [.long v] := by
  obtain ⟨p, l, e, R, s, m, args, below, meth, c, cells, slots, Q⟩ := z
  obtain ⟨-, hx, hb, -⟩ := C
  obtain ⟨hr, hlocks, rfl⟩ := E
  subst hv; subst ht
  exact fun H ls locs hH hS hl => W.lret hx hb hr (fun t ht hW => ⟨rfl, by rw [ht]; exact Hp.sq hs hH, hS.F ht⟩) hS.2.2 hdg hlocks
theorem g_vret (C : Cx z w cc nL own d) {sg' : Sg} {tu' : Int64} (E : Ends z w none none sg' tu') (hdg : decode cc pc = .ok (.return_, 1)) (hs : Sq sg sg') (ht : tu = tu') : G z w nL sg tu pc L [] := by
  obtain ⟨p, l, e, R, s, m, args, below, meth, c, cells, slots, Q⟩ := z
  obtain ⟨-, hx, hb, -⟩ := C
  obtain ⟨hr, hlocks, rfl⟩ := E
  subst ht
  exact fun H ls locs hH hS hl => W.vret hx hb hr (fun t ht hW => ⟨rfl, by rw [ht]; exact Hp.sq hs hH, hS.F ht⟩) hS.2.2 hdg hlocks
theorem g_iconst (C : Cx z w cc nL own d) {n : Int} {v : Int32} (hv : Int32.ofInt n = v) (hdg : decode cc pc = .ok (.iconst n, 1))
    (k : G z w nL sg tu (pc + 1) L (.int v :: S)) : G z w nL sg tu pc L (S) := by
  obtain ⟨p, l, e, R, s, m, args, below, meth, c, cells, slots, Q⟩ := z
  obtain ⟨-, hx, hb, -⟩ := C
  exact fun H ls locs hH hS hl => lv_iconst hx hb hdg hv (k H ls locs hH hS hl)
theorem g_bipush (C : Cx z w cc nL own d) {n : Int} {v : Int32} (hv : (Int8.ofInt n).toInt32 = v) (hdg : decode cc pc = .ok (.bipush n, 2))
    (k : G z w nL sg tu (pc + 2) L (.int v :: S)) : G z w nL sg tu pc L (S) := by
  obtain ⟨p, l, e, R, s, m, args, below, meth, c, cells, slots, Q⟩ := z
  obtain ⟨-, hx, hb, -⟩ := C
  exact fun H ls locs hH hS hl => lv_bipush hx hb hdg hv (k H ls locs hH hS hl)
theorem g_sipush (C : Cx z w cc nL own d) {n : Int} {v : Int32} (hv : (Int16.ofInt n).toInt32 = v) (hdg : decode cc pc = .ok (.sipush n, 3))
    (k : G z w nL sg tu (pc + 3) L (.int v :: S)) : G z w nL sg tu pc L (S) := by
  obtain ⟨p, l, e, R, s, m, args, below, meth, c, cells, slots, Q⟩ := z
  obtain ⟨-, hx, hb, -⟩ := C
  exact fun H ls locs hH hS hl => lv_sipush hx hb hdg hv (k H ls locs hH hS hl)
theorem g_lconst (C : Cx z w cc nL own d) {n : Fin 2} {v : Int64} (hv : Int64.ofNat (n : Nat) = v) (hdg : decode cc pc = .ok (.lconst n, 1))
    (k : G z w nL sg tu (pc + 1) L (.long v :: S)) : G z w nL sg tu pc L (S) := by
  obtain ⟨p, l, e, R, s, m, args, below, meth, c, cells, slots, Q⟩ := z
  obtain ⟨-, hx, hb, -⟩ := C
  exact fun H ls locs hH hS hl => lv_lconst hx hb hdg hv (k H ls locs hH hS hl)
theorem g_iload_n (C : Cx z w cc nL own d) {k0 : Fin 4} {i : Nat} {x : Int32} (q : Nat) (hi : (k0 : Nat) = i) (hq : L[q]? = some (i, .int x)) (hdg : decode cc pc = .ok (.iload_n k0, 1))
    (k : G z w nL sg tu (pc + 1) L (.int x :: S)) : G z w nL sg tu pc L (S) := by
  obtain ⟨p, l, e, R, s, m, args, below, meth, c, cells, slots, Q⟩ := z
  obtain ⟨-, hx, hb, -⟩ := C
  exact fun H ls locs hH hS hl => lv_iload_n hx hb hdg hi (lv_at hl q hq) (k H ls locs hH hS hl)
theorem g_iload (C : Cx z w cc nL own d) {i : Nat} {x : Int32} (q : Nat) (hq : L[q]? = some (i, .int x)) (hdg : decode cc pc = .ok (.iload i, 2))
    (k : G z w nL sg tu (pc + 2) L (.int x :: S)) : G z w nL sg tu pc L (S) := by
  obtain ⟨p, l, e, R, s, m, args, below, meth, c, cells, slots, Q⟩ := z
  obtain ⟨-, hx, hb, -⟩ := C
  exact fun H ls locs hH hS hl => lv_iload hx hb hdg (lv_at hl q hq) (k H ls locs hH hS hl)
theorem g_lload_n (C : Cx z w cc nL own d) {k0 : Fin 4} {i : Nat} {x : Int64} (q : Nat) (hi : (k0 : Nat) = i) (hq : L[q]? = some (i, .long x)) (hdg : decode cc pc = .ok (.lload_n k0, 1))
    (k : G z w nL sg tu (pc + 1) L (.long x :: S)) : G z w nL sg tu pc L (S) := by
  obtain ⟨p, l, e, R, s, m, args, below, meth, c, cells, slots, Q⟩ := z
  obtain ⟨-, hx, hb, -⟩ := C
  exact fun H ls locs hH hS hl => lv_lload_n hx hb hdg hi (lv_at hl q hq) (k H ls locs hH hS hl)
theorem g_lload (C : Cx z w cc nL own d) {i : Nat} {x : Int64} (q : Nat) (hq : L[q]? = some (i, .long x)) (hdg : decode cc pc = .ok (.lload i, 2))
    (k : G z w nL sg tu (pc + 2) L (.long x :: S)) : G z w nL sg tu pc L (S) := by
  obtain ⟨p, l, e, R, s, m, args, below, meth, c, cells, slots, Q⟩ := z
  obtain ⟨-, hx, hb, -⟩ := C
  exact fun H ls locs hH hS hl => lv_lload hx hb hdg (lv_at hl q hq) (k H ls locs hH hS hl)
theorem g_aload_n (C : Cx z w cc nL own d) {k0 : Fin 4} {i : Nat} {x : Nat} (q : Nat) (hi : (k0 : Nat) = i) (hq : L[q]? = some (i, .ref x)) (hdg : decode cc pc = .ok (.aload_n k0, 1))
    (k : G z w nL sg tu (pc + 1) L (.ref x :: S)) : G z w nL sg tu pc L (S) := by
  obtain ⟨p, l, e, R, s, m, args, below, meth, c, cells, slots, Q⟩ := z
  obtain ⟨-, hx, hb, -⟩ := C
  exact fun H ls locs hH hS hl => lv_aload_n hx hb hdg hi (lv_at hl q hq) (k H ls locs hH hS hl)
theorem g_aload (C : Cx z w cc nL own d) {i : Nat} {x : Nat} (q : Nat) (hq : L[q]? = some (i, .ref x)) (hdg : decode cc pc = .ok (.aload i, 2))
    (k : G z w nL sg tu (pc + 2) L (.ref x :: S)) : G z w nL sg tu pc L (S) := by
  obtain ⟨p, l, e, R, s, m, args, below, meth, c, cells, slots, Q⟩ := z
  obtain ⟨-, hx, hb, -⟩ := C
  exact fun H ls locs hH hS hl => lv_aload hx hb hdg (lv_at hl q hq) (k H ls locs hH hS hl)
theorem g_istore_n (C : Cx z w cc nL own d) {k0 : Fin 4} {i : Nat} {x : Int32} {L' : List (Nat × Value)} (hi : (k0 : Nat) = i) (hn : i < nL) (hL : (i, Value.int x) :: L.filter (fun q => !(q.1 == i) && !(q.1 + 1 == i && q.2.category == 2)) = L') (hdg : decode cc pc = .ok (.istore_n k0, 1))
    (k : G z w nL sg tu (pc + 1) L' (S)) : G z w nL sg tu pc L (.int x :: S) := by
  obtain ⟨p, l, e, R, s, m, args, below, meth, c, cells, slots, Q⟩ := z
  obtain ⟨-, hx, hb, -⟩ := C
  exact fun H ls locs hH hS hl => lv_istore_n hx hb hdg hi hl hn hL (fun ls hl => k H ls locs hH hS hl)
theorem g_istore (C : Cx z w cc nL own d) {i : Nat} {x : Int32} {L' : List (Nat × Value)} (hn : i < nL) (hL : (i, Value.int x) :: L.filter (fun q => !(q.1 == i) && !(q.1 + 1 == i && q.2.category == 2)) = L') (hdg : decode cc pc = .ok (.istore i, 2))
    (k : G z w nL sg tu (pc + 2) L' (S)) : G z w nL sg tu pc L (.int x :: S) := by
  obtain ⟨p, l, e, R, s, m, args, below, meth, c, cells, slots, Q⟩ := z
  obtain ⟨-, hx, hb, -⟩ := C
  exact fun H ls locs hH hS hl => lv_istore hx hb hdg hl hn hL (fun ls hl => k H ls locs hH hS hl)
theorem g_lstore_n (C : Cx z w cc nL own d) {k0 : Fin 4} {i : Nat} {x : Int64} {L' : List (Nat × Value)} (hi : (k0 : Nat) = i) (hn : i + 1 < nL) (hL : (i, Value.long x) :: L.filter (fun q => !(q.1 == i) && (!(q.1 == i + 1) && !(q.1 + 1 == i && q.2.category == 2))) = L') (hdg : decode cc pc = .ok (.lstore_n k0, 1))
    (k : G z w nL sg tu (pc + 1) L' (S)) : G z w nL sg tu pc L (.long x :: S) := by
  obtain ⟨p, l, e, R, s, m, args, below, meth, c, cells, slots, Q⟩ := z
  obtain ⟨-, hx, hb, -⟩ := C
  exact fun H ls locs hH hS hl => lv_lstore_n hx hb hdg hi hl hn hL (fun ls hl => k H ls locs hH hS hl)
theorem g_lstore (C : Cx z w cc nL own d) {i : Nat} {x : Int64} {L' : List (Nat × Value)} (hn : i + 1 < nL) (hL : (i, Value.long x) :: L.filter (fun q => !(q.1 == i) && (!(q.1 == i + 1) && !(q.1 + 1 == i && q.2.category == 2))) = L') (hdg : decode cc pc = .ok (.lstore i, 2))
    (k : G z w nL sg tu (pc + 2) L' (S)) : G z w nL sg tu pc L (.long x :: S) := by
  obtain ⟨p, l, e, R, s, m, args, below, meth, c, cells, slots, Q⟩ := z
  obtain ⟨-, hx, hb, -⟩ := C
  exact fun H ls locs hH hS hl => lv_lstore hx hb hdg hl hn hL (fun ls hl => k H ls locs hH hS hl)
theorem g_astore_n (C : Cx z w cc nL own d) {k0 : Fin 4} {i : Nat} {x : Nat} {L' : List (Nat × Value)} (hi : (k0 : Nat) = i) (hn : i < nL) (hL : (i, Value.ref x) :: L.filter (fun q => !(q.1 == i) && !(q.1 + 1 == i && q.2.category == 2)) = L') (hdg : decode cc pc = .ok (.astore_n k0, 1))
    (k : G z w nL sg tu (pc + 1) L' (S)) : G z w nL sg tu pc L (.ref x :: S) := by
  obtain ⟨p, l, e, R, s, m, args, below, meth, c, cells, slots, Q⟩ := z
  obtain ⟨-, hx, hb, -⟩ := C
  exact fun H ls locs hH hS hl => lv_astore_n hx hb hdg hi hl hn hL (fun ls hl => k H ls locs hH hS hl)
theorem g_astore (C : Cx z w cc nL own d) {i : Nat} {x : Nat} {L' : List (Nat × Value)} (hn : i < nL) (hL : (i, Value.ref x) :: L.filter (fun q => !(q.1 == i) && !(q.1 + 1 == i && q.2.category == 2)) = L') (hdg : decode cc pc = .ok (.astore i, 2))
    (k : G z w nL sg tu (pc + 2) L' (S)) : G z w nL sg tu pc L (.ref x :: S) := by
  obtain ⟨p, l, e, R, s, m, args, below, meth, c, cells, slots, Q⟩ := z
  obtain ⟨-, hx, hb, -⟩ := C
  exact fun H ls locs hH hS hl => lv_astore hx hb hdg hl hn hL (fun ls hl => k H ls locs hH hS hl)
theorem g_iinc (C : Cx z w cc nL own d) {i : Nat} {n : Int} {x v : Int32} {L' : List (Nat × Value)} (q : Nat) (hq : L[q]? = some (i, .int x)) (hv : x + Int32.ofInt n = v) (hn : i < nL) (hL : (i, Value.int v) :: L.filter (fun q => !(q.1 == i) && !(q.1 + 1 == i && q.2.category == 2)) = L') (hdg : decode cc pc = .ok (.iinc i n, 3))
    (k : G z w nL sg tu (pc + 3) L' (S)) : G z w nL sg tu pc L (S) := by
  obtain ⟨p, l, e, R, s, m, args, below, meth, c, cells, slots, Q⟩ := z
  obtain ⟨-, hx, hb, -⟩ := C
  exact fun H ls locs hH hS hl => lv_iinc hx hb hdg hl hq hv hn hL (fun ls hl => k H ls locs hH hS hl)
theorem g_iadd (C : Cx z w cc nL own d) {x y : Int32} (hdg : decode cc pc = .ok (.iadd, 1))
    (k : G z w nL sg tu (pc + 1) L (.int (x + y) :: S)) : G z w nL sg tu pc L (.int y :: .int x :: S) := by
  obtain ⟨p, l, e, R, s, m, args, below, meth, c, cells, slots, Q⟩ := z
  obtain ⟨-, hx, hb, -⟩ := C
  exact fun H ls locs hH hS hl => lv_iadd hx hb hdg (k H ls locs hH hS hl)
theorem g_isub (C : Cx z w cc nL own d) {x y : Int32} (hdg : decode cc pc = .ok (.isub, 1))
    (k : G z w nL sg tu (pc + 1) L (.int (x - y) :: S)) : G z w nL sg tu pc L (.int y :: .int x :: S) := by
  obtain ⟨p, l, e, R, s, m, args, below, meth, c, cells, slots, Q⟩ := z
  obtain ⟨-, hx, hb, -⟩ := C
  exact fun H ls locs hH hS hl => lv_isub hx hb hdg (k H ls locs hH hS hl)
theorem g_imul (C : Cx z w cc nL own d) {x y : Int32} (hdg : decode cc pc = .ok (.imul, 1))
    (k : G z w nL sg tu (pc + 1) L (.int (x * y) :: S)) : G z w nL sg tu pc L (.int y :: .int x :: S) := by
  obtain ⟨p, l, e, R, s, m, args, below, meth, c, cells, slots, Q⟩ := z
  obtain ⟨-, hx, hb, -⟩ := C
  exact fun H ls locs hH hS hl => lv_imul hx hb hdg (k H ls locs hH hS hl)
theorem g_iand (C : Cx z w cc nL own d) {x y : Int32} (hdg : decode cc pc = .ok (.iand, 1))
    (k : G z w nL sg tu (pc + 1) L (.int (x &&& y) :: S)) : G z w nL sg tu pc L (.int y :: .int x :: S) := by
  obtain ⟨p, l, e, R, s, m, args, below, meth, c, cells, slots, Q⟩ := z
  obtain ⟨-, hx, hb, -⟩ := C
  exact fun H ls locs hH hS hl => lv_iand hx hb hdg (k H ls locs hH hS hl)
theorem g_ior (C : Cx z w cc nL own d) {x y : Int32} (hdg : decode cc pc = .ok (.ior, 1))
    (k : G z w nL sg tu (pc + 1) L (.int (x ||| y) :: S)) : G z w nL sg tu pc L (.int y :: .int x :: S) := by
  obtain ⟨p, l, e, R, s, m, args, below, meth, c, cells, slots, Q⟩ := z
  obtain ⟨-, hx, hb, -⟩ := C
  exact fun H ls locs hH hS hl => lv_ior hx hb hdg (k H ls locs hH hS hl)
theorem g_ixor (C : Cx z w cc nL own d) {x y : Int32} (hdg : decode cc pc = .ok (.ixor, 1))
    (k : G z w nL sg tu (pc + 1) L (.int (x ^^^ y) :: S)) : G z w nL sg tu pc L (.int y :: .int x :: S) := by
  obtain ⟨p, l, e, R, s, m, args, below, meth, c, cells, slots, Q⟩ := z
  obtain ⟨-, hx, hb, -⟩ := C
  exact fun H ls locs hH hS hl => lv_ixor hx hb hdg (k H ls locs hH hS hl)
theorem g_idiv (C : Cx z w cc nL own d) {x y : Int32} (hne : ¬ y = 0) (hdg : decode cc pc = .ok (.idiv, 1))
    (k : G z w nL sg tu (pc + 1) L (.int (x / y) :: S)) : G z w nL sg tu pc L (.int y :: .int x :: S) := by
  obtain ⟨p, l, e, R, s, m, args, below, meth, c, cells, slots, Q⟩ := z
  obtain ⟨-, hx, hb, -⟩ := C
  exact fun H ls locs hH hS hl => lv_idiv hx hb hdg hne (k H ls locs hH hS hl)
theorem g_irem (C : Cx z w cc nL own d) {x y : Int32} (hne : ¬ y = 0) (hdg : decode cc pc = .ok (.irem, 1))
    (k : G z w nL sg tu (pc + 1) L (.int (x - x / y * y) :: S)) : G z w nL sg tu pc L (.int y :: .int x :: S) := by
  obtain ⟨p, l, e, R, s, m, args, below, meth, c, cells, slots, Q⟩ := z
  obtain ⟨-, hx, hb, -⟩ := C
  exact fun H ls locs hH hS hl => lv_irem hx hb hdg hne (k H ls locs hH hS hl)
theorem g_ineg (C : Cx z w cc nL own d) {x : Int32} (hdg : decode cc pc = .ok (.ineg, 1))
    (k : G z w nL sg tu (pc + 1) L (.int (-x) :: S)) : G z w nL sg tu pc L (.int x :: S) := by
  obtain ⟨p, l, e, R, s, m, args, below, meth, c, cells, slots, Q⟩ := z
  obtain ⟨-, hx, hb, -⟩ := C
  exact fun H ls locs hH hS hl => lv_ineg hx hb hdg (k H ls locs hH hS hl)
theorem g_ladd (C : Cx z w cc nL own d) {x y : Int64} (hdg : decode cc pc = .ok (.ladd, 1))
    (k : G z w nL sg tu (pc + 1) L (.long (x + y) :: S)) : G z w nL sg tu pc L (.long y :: .long x :: S) := by
  obtain ⟨p, l, e, R, s, m, args, below, meth, c, cells, slots, Q⟩ := z
  obtain ⟨-, hx, hb, -⟩ := C
  exact fun H ls locs hH hS hl => lv_ladd hx hb hdg (k H ls locs hH hS hl)
theorem g_lsub (C : Cx z w cc nL own d) {x y : Int64} (hdg : decode cc pc = .ok (.lsub, 1))
    (k : G z w nL sg tu (pc + 1) L (.long (x - y) :: S)) : G z w nL sg tu pc L (.long y :: .long x :: S) := by
  obtain ⟨p, l, e, R, s, m, args, below, meth, c, cells, slots, Q⟩ := z
  obtain ⟨-, hx, hb, -⟩ := C
  exact fun H ls locs hH hS hl => lv_lsub hx hb hdg (k H ls locs hH hS hl)
theorem g_lmul (C : Cx z w cc nL own d) {x y : Int64} (hdg : decode cc pc = .ok (.lmul, 1))
    (k : G z w nL sg tu (pc + 1) L (.long (x * y) :: S)) : G z w nL sg tu pc L (.long y :: .long x :: S) := by
  obtain ⟨p, l, e, R, s, m, args, below, meth, c, cells, slots, Q⟩ := z
  obtain ⟨-, hx, hb, -⟩ := C
  exact fun H ls locs hH hS hl => lv_lmul hx hb hdg (k H ls locs hH hS hl)
theorem g_land (C : Cx z w cc nL own d) {x y : Int64} (hdg : decode cc pc = .ok (.land, 1))
    (k : G z w nL sg tu (pc + 1) L (.long (x &&& y) :: S)) : G z w nL sg tu pc L (.long y :: .long x :: S) := by
  obtain ⟨p, l, e, R, s, m, args, below, meth, c, cells, slots, Q⟩ := z
  obtain ⟨-, hx, hb, -⟩ := C
  exact fun H ls locs hH hS hl => lv_land hx hb hdg (k H ls locs hH hS hl)
theorem g_lor (C : Cx z w cc nL own d) {x y : Int64} (hdg : decode cc pc = .ok (.lor, 1))
    (k : G z w nL sg tu (pc + 1) L (.long (x ||| y) :: S)) : G z w nL sg tu pc L (.long y :: .long x :: S) := by
  obtain ⟨p, l, e, R, s, m, args, below, meth, c, cells, slots, Q⟩ := z
  obtain ⟨-, hx, hb, -⟩ := C
  exact fun H ls locs hH hS hl => lv_lor hx hb hdg (k H ls locs hH hS hl)
theorem g_ldiv (C : Cx z w cc nL own d) {x y : Int64} (hne : ¬ y = 0) (hdg : decode cc pc = .ok (.ldiv, 1))
    (k : G z w nL sg tu (pc + 1) L (.long (x / y) :: S)) : G z w nL sg tu pc L (.long y :: .long x :: S) := by
  obtain ⟨p, l, e, R, s, m, args, below, meth, c, cells, slots, Q⟩ := z
  obtain ⟨-, hx, hb, -⟩ := C
  exact fun H ls locs hH hS hl => lv_ldiv hx hb hdg hne (k H ls locs hH hS hl)
theorem g_lrem (C : Cx z w cc nL own d) {x y : Int64} (hne : ¬ y = 0) (hdg : decode cc pc = .ok (.lrem, 1))
    (k : G z w nL sg tu (pc + 1) L (.long (x - x / y * y) :: S)) : G z w nL sg tu pc L (.long y :: .long x :: S) := by
  obtain ⟨p, l, e, R, s, m, args, below, meth, c, cells, slots, Q⟩ := z
  obtain ⟨-, hx, hb, -⟩ := C
  exact fun H ls locs hH hS hl => lv_lrem hx hb hdg hne (k H ls locs hH hS hl)
theorem g_ishl (C : Cx z w cc nL own d) {x y : Int32} (hdg : decode cc pc = .ok (.ishl, 1))
    (k : G z w nL sg tu (pc + 1) L (.int (x <<< (y &&& 31)) :: S)) : G z w nL sg tu pc L (.int y :: .int x :: S) := by
  obtain ⟨p, l, e, R, s, m, args, below, meth, c, cells, slots, Q⟩ := z
  obtain ⟨-, hx, hb, -⟩ := C
  exact fun H ls locs hH hS hl => lv_ishl hx hb hdg (k H ls locs hH hS hl)
theorem g_ishr (C : Cx z w cc nL own d) {x y : Int32} (hdg : decode cc pc = .ok (.ishr, 1))
    (k : G z w nL sg tu (pc + 1) L (.int (x >>> (y &&& 31)) :: S)) : G z w nL sg tu pc L (.int y :: .int x :: S) := by
  obtain ⟨p, l, e, R, s, m, args, below, meth, c, cells, slots, Q⟩ := z
  obtain ⟨-, hx, hb, -⟩ := C
  exact fun H ls locs hH hS hl => lv_ishr hx hb hdg (k H ls locs hH hS hl)
theorem g_iushr (C : Cx z w cc nL own d) {x y : Int32} (hdg : decode cc pc = .ok (.iushr, 1))
    (k : G z w nL sg tu (pc + 1) L (.int ((x.toUInt32 >>> (y.toUInt32 &&& Int32.toUInt32 31)).toInt32) :: S)) : G z w nL sg tu pc L (.int y :: .int x :: S) := by
  obtain ⟨p, l, e, R, s, m, args, below, meth, c, cells, slots, Q⟩ := z
  obtain ⟨-, hx, hb, -⟩ := C
  exact fun H ls locs hH hS hl => lv_iushr hx hb hdg rfl (k H ls locs hH hS hl)
theorem g_i2l (C : Cx z w cc nL own d) {x : Int32} (hdg : decode cc pc = .ok (.i2l, 1))
    (k : G z w nL sg tu (pc + 1) L (.long (x.toInt64) :: S)) : G z w nL sg tu pc L (.int x :: S) := by
  obtain ⟨p, l, e, R, s, m, args, below, meth, c, cells, slots, Q⟩ := z
  obtain ⟨-, hx, hb, -⟩ := C
  exact fun H ls locs hH hS hl => lv_i2l hx hb hdg rfl (k H ls locs hH hS hl)
theorem g_l2i (C : Cx z w cc nL own d) {x : Int64} (hdg : decode cc pc = .ok (.l2i, 1))
    (k : G z w nL sg tu (pc + 1) L (.int (x.toInt32) :: S)) : G z w nL sg tu pc L (.long x :: S) := by
  obtain ⟨p, l, e, R, s, m, args, below, meth, c, cells, slots, Q⟩ := z
  obtain ⟨-, hx, hb, -⟩ := C
  exact fun H ls locs hH hS hl => lv_l2i hx hb hdg rfl (k H ls locs hH hS hl)
theorem g_i2b (C : Cx z w cc nL own d) {x : Int32} (hdg : decode cc pc = .ok (.i2b, 1))
    (k : G z w nL sg tu (pc + 1) L (.int (x.toInt8.toInt32) :: S)) : G z w nL sg tu pc L (.int x :: S) := by
  obtain ⟨p, l, e, R, s, m, args, below, meth, c, cells, slots, Q⟩ := z
  obtain ⟨-, hx, hb, -⟩ := C
  exact fun H ls locs hH hS hl => lv_i2b hx hb hdg rfl (k H ls locs hH hS hl)
theorem g_lshl (C : Cx z w cc nL own d) {x : Int64} {y : Int32} (hdg : decode cc pc = .ok (.lshl, 1))
    (k : G z w nL sg tu (pc + 1) L (.long (x <<< (y.toInt64 &&& 63)) :: S)) : G z w nL sg tu pc L (.int y :: .long x :: S) := by
  obtain ⟨p, l, e, R, s, m, args, below, meth, c, cells, slots, Q⟩ := z
  obtain ⟨-, hx, hb, -⟩ := C
  exact fun H ls locs hH hS hl => lv_lshl hx hb hdg rfl (k H ls locs hH hS hl)
theorem g_lcmp (C : Cx z w cc nL own d) {x y : Int64} (hdg : decode cc pc = .ok (.lcmp, 1))
    (k : G z w nL sg tu (pc + 1) L (.int (lg_cmp x y) :: S)) : G z w nL sg tu pc L (.long y :: .long x :: S) := by
  obtain ⟨p, l, e, R, s, m, args, below, meth, c, cells, slots, Q⟩ := z
  obtain ⟨-, hx, hb, -⟩ := C
  exact fun H ls locs hH hS hl => W.lcmp hx hb hdg (k H ls locs hH hS hl)
theorem g_dup (C : Cx z w cc nL own d) {va : Value} (hva : va.category = 1) (hdg : decode cc pc = .ok (.dup, 1))
    (k : G z w nL sg tu (pc + 1) L (va :: va :: S)) : G z w nL sg tu pc L (va :: S) := by
  obtain ⟨p, l, e, R, s, m, args, below, meth, c, cells, slots, Q⟩ := z
  obtain ⟨-, hx, hb, -⟩ := C
  exact fun H ls locs hH hS hl => lv_dup hx hb hdg hva (k H ls locs hH hS hl)
theorem g_pop (C : Cx z w cc nL own d) {va : Value} (hva : va.category = 1) (hdg : decode cc pc = .ok (.pop, 1))
    (k : G z w nL sg tu (pc + 1) L (S)) : G z w nL sg tu pc L (va :: S) := by
  obtain ⟨p, l, e, R, s, m, args, below, meth, c, cells, slots, Q⟩ := z
  obtain ⟨-, hx, hb, -⟩ := C
  exact fun H ls locs hH hS hl => lv_pop hx hb hdg hva (k H ls locs hH hS hl)
theorem g_dup2 (C : Cx z w cc nL own d) {va vb : Value} (hva : va.category = 1) (hvb : vb.category = 1) (hdg : decode cc pc = .ok (.dup2, 1))
    (k : G z w nL sg tu (pc + 1) L (va :: vb :: va :: vb :: S)) : G z w nL sg tu pc L (va :: vb :: S) := by
  obtain ⟨p, l, e, R, s, m, args, below, meth, c, cells, slots, Q⟩ := z
  obtain ⟨-, hx, hb, -⟩ := C
  exact fun H ls locs hH hS hl => lv_dup2_11 hx hb hdg hva hvb (k H ls locs hH hS hl)
theorem g_ldc2 (C : Cx z w cc nL own d) {idx : Nat} {v : Int64} (hc : Cond.constantLong own idx v ∈ TG) (hdg : decode cc pc = .ok (.ldc2_w idx, 3))
    (k : G z w nL sg tu (pc + 3) L (.long v :: S)) : G z w nL sg tu pc L (S) := by
  obtain ⟨p, l, e, R, s, m, args, below, meth, c, cells, slots, Q⟩ := z
  obtain ⟨-, hx, hb, hml, hown, hts, -⟩ := C
  exact fun H ls locs hH hS hl => lv_ldc2 hx hb hown (hts _ hc) hdg (k H ls locs hH hS hl)
theorem g_ldcw (C : Cx z w cc nL own d) {idx : Nat} {v : Int32} (hc : Cond.constant own idx v ∈ TG) (hdg : decode cc pc = .ok (.ldc_w idx, 3))
    (k : G z w nL sg tu (pc + 3) L (.int v :: S)) : G z w nL sg tu pc L (S) := by
  obtain ⟨p, l, e, R, s, m, args, below, meth, c, cells, slots, Q⟩ := z
  obtain ⟨-, hx, hb, hml, hown, hts, -⟩ := C
  exact fun H ls locs hH hS hl => lv_ldcw hx hb hown (hts _ hc) hdg (k H ls locs hH hS hl)
theorem g_goto (C : Cx z w cc nL own d) {off : Int} {tgt : Nat} (ht : (pc : Int) + off = (tgt : Int)) (hdg : decode cc pc = .ok (.goto off, 3))
    (k : G z w nL sg tu (tgt) L (S)) : G z w nL sg tu pc L (S) := by
  obtain ⟨p, l, e, R, s, m, args, below, meth, c, cells, slots, Q⟩ := z
  obtain ⟨-, hx, hb, -⟩ := C
  exact fun H ls locs hH hS hl => lv_goto hx hb hdg ht (k H ls locs hH hS hl)
theorem g_if_eq (C : Cx z w cc nL own d) {x : Int32} {off : Int} {tgt : Nat} (ht : (pc : Int) + off = (tgt : Int)) (hdg : decode cc pc = .ok (.ifCond .eq off, 3))
    (kt : (x = 0) → G z w nL sg tu tgt L S) (kf : ¬ (x = 0) → G z w nL sg tu (pc + 3) L S) : G z w nL sg tu pc L (.int x :: S) := by
  obtain ⟨p, l, e, R, s, m, args, below, meth, c, cells, slots, Q⟩ := z
  obtain ⟨-, hx, hb, -⟩ := C
  exact fun H ls locs hH hS hl => lv_if_eq hx hb hdg ht (fun q => kt q H ls locs hH hS hl) (fun q => kf q H ls locs hH hS hl)
theorem g_icmp_eq (C : Cx z w cc nL own d) {x y : Int32} {off : Int} {tgt : Nat} (ht : (pc : Int) + off = (tgt : Int)) (hdg : decode cc pc = .ok (.if_icmp .eq off, 3))
    (kt : (x = y) → G z w nL sg tu tgt L S) (kf : ¬ (x = y) → G z w nL sg tu (pc + 3) L S) : G z w nL sg tu pc L (.int y :: .int x :: S) := by
  obtain ⟨p, l, e, R, s, m, args, below, meth, c, cells, slots, Q⟩ := z
  obtain ⟨-, hx, hb, -⟩ := C
  exact fun H ls locs hH hS hl => lv_icmp_eq hx hb hdg ht (fun q => kt q H ls locs hH hS hl) (fun q => kf q H ls locs hH hS hl)
theorem g_if_ne (C : Cx z w cc nL own d) {x : Int32} {off : Int} {tgt : Nat} (ht : (pc : Int) + off = (tgt : Int)) (hdg : decode cc pc = .ok (.ifCond .ne off, 3))
    (kt : (¬ x = 0) → G z w nL sg tu tgt L S) (kf : (x = 0) → G z w nL sg tu (pc + 3) L S) : G z w nL sg tu pc L (.int x :: S) := by
  obtain ⟨p, l, e, R, s, m, args, below, meth, c, cells, slots, Q⟩ := z
  obtain ⟨-, hx, hb, -⟩ := C
  exact fun H ls locs hH hS hl => lv_if_ne hx hb hdg ht (fun q => kt q H ls locs hH hS hl) (fun q => kf q H ls locs hH hS hl)
theorem g_icmp_ne (C : Cx z w cc nL own d) {x y : Int32} {off : Int} {tgt : Nat} (ht : (pc : Int) + off = (tgt : Int)) (hdg : decode cc pc = .ok (.if_icmp .ne off, 3))
    (kt : (¬ x = y) → G z w nL sg tu tgt L S) (kf : (x = y) → G z w nL sg tu (pc + 3) L S) : G z w nL sg tu pc L (.int y :: .int x :: S) := by
  obtain ⟨p, l, e, R, s, m, args, below, meth, c, cells, slots, Q⟩ := z
  obtain ⟨-, hx, hb, -⟩ := C
  exact fun H ls locs hH hS hl => lv_icmp_ne hx hb hdg ht (fun q => kt q H ls locs hH hS hl) (fun q => kf q H ls locs hH hS hl)
theorem g_if_lt (C : Cx z w cc nL own d) {x : Int32} {off : Int} {tgt : Nat} (ht : (pc : Int) + off = (tgt : Int)) (hdg : decode cc pc = .ok (.ifCond .lt off, 3))
    (kt : (x < 0) → G z w nL sg tu tgt L S) (kf : ¬ (x < 0) → G z w nL sg tu (pc + 3) L S) : G z w nL sg tu pc L (.int x :: S) := by
  obtain ⟨p, l, e, R, s, m, args, below, meth, c, cells, slots, Q⟩ := z
  obtain ⟨-, hx, hb, -⟩ := C
  exact fun H ls locs hH hS hl => lv_if_lt hx hb hdg ht (fun q => kt q H ls locs hH hS hl) (fun q => kf q H ls locs hH hS hl)
theorem g_icmp_lt (C : Cx z w cc nL own d) {x y : Int32} {off : Int} {tgt : Nat} (ht : (pc : Int) + off = (tgt : Int)) (hdg : decode cc pc = .ok (.if_icmp .lt off, 3))
    (kt : (x < y) → G z w nL sg tu tgt L S) (kf : ¬ (x < y) → G z w nL sg tu (pc + 3) L S) : G z w nL sg tu pc L (.int y :: .int x :: S) := by
  obtain ⟨p, l, e, R, s, m, args, below, meth, c, cells, slots, Q⟩ := z
  obtain ⟨-, hx, hb, -⟩ := C
  exact fun H ls locs hH hS hl => lv_icmp_lt hx hb hdg ht (fun q => kt q H ls locs hH hS hl) (fun q => kf q H ls locs hH hS hl)
theorem g_if_ge (C : Cx z w cc nL own d) {x : Int32} {off : Int} {tgt : Nat} (ht : (pc : Int) + off = (tgt : Int)) (hdg : decode cc pc = .ok (.ifCond .ge off, 3))
    (kt : (0 ≤ x) → G z w nL sg tu tgt L S) (kf : ¬ (0 ≤ x) → G z w nL sg tu (pc + 3) L S) : G z w nL sg tu pc L (.int x :: S) := by
  obtain ⟨p, l, e, R, s, m, args, below, meth, c, cells, slots, Q⟩ := z
  obtain ⟨-, hx, hb, -⟩ := C
  exact fun H ls locs hH hS hl => lv_if_ge hx hb hdg ht (fun q => kt q H ls locs hH hS hl) (fun q => kf q H ls locs hH hS hl)
theorem g_icmp_ge (C : Cx z w cc nL own d) {x y : Int32} {off : Int} {tgt : Nat} (ht : (pc : Int) + off = (tgt : Int)) (hdg : decode cc pc = .ok (.if_icmp .ge off, 3))
    (kt : (y ≤ x) → G z w nL sg tu tgt L S) (kf : ¬ (y ≤ x) → G z w nL sg tu (pc + 3) L S) : G z w nL sg tu pc L (.int y :: .int x :: S) := by
  obtain ⟨p, l, e, R, s, m, args, below, meth, c, cells, slots, Q⟩ := z
  obtain ⟨-, hx, hb, -⟩ := C
  exact fun H ls locs hH hS hl => lv_icmp_ge hx hb hdg ht (fun q => kt q H ls locs hH hS hl) (fun q => kf q H ls locs hH hS hl)
theorem g_if_gt (C : Cx z w cc nL own d) {x : Int32} {off : Int} {tgt : Nat} (ht : (pc : Int) + off = (tgt : Int)) (hdg : decode cc pc = .ok (.ifCond .gt off, 3))
    (kt : (0 < x) → G z w nL sg tu tgt L S) (kf : ¬ (0 < x) → G z w nL sg tu (pc + 3) L S) : G z w nL sg tu pc L (.int x :: S) := by
  obtain ⟨p, l, e, R, s, m, args, below, meth, c, cells, slots, Q⟩ := z
  obtain ⟨-, hx, hb, -⟩ := C
  exact fun H ls locs hH hS hl => lv_if_gt hx hb hdg ht (fun q => kt q H ls locs hH hS hl) (fun q => kf q H ls locs hH hS hl)
theorem g_icmp_gt (C : Cx z w cc nL own d) {x y : Int32} {off : Int} {tgt : Nat} (ht : (pc : Int) + off = (tgt : Int)) (hdg : decode cc pc = .ok (.if_icmp .gt off, 3))
    (kt : (y < x) → G z w nL sg tu tgt L S) (kf : ¬ (y < x) → G z w nL sg tu (pc + 3) L S) : G z w nL sg tu pc L (.int y :: .int x :: S) := by
  obtain ⟨p, l, e, R, s, m, args, below, meth, c, cells, slots, Q⟩ := z
  obtain ⟨-, hx, hb, -⟩ := C
  exact fun H ls locs hH hS hl => lv_icmp_gt hx hb hdg ht (fun q => kt q H ls locs hH hS hl) (fun q => kf q H ls locs hH hS hl)
theorem g_if_le (C : Cx z w cc nL own d) {x : Int32} {off : Int} {tgt : Nat} (ht : (pc : Int) + off = (tgt : Int)) (hdg : decode cc pc = .ok (.ifCond .le off, 3))
    (kt : (x ≤ 0) → G z w nL sg tu tgt L S) (kf : ¬ (x ≤ 0) → G z w nL sg tu (pc + 3) L S) : G z w nL sg tu pc L (.int x :: S) := by
  obtain ⟨p, l, e, R, s, m, args, below, meth, c, cells, slots, Q⟩ := z
  obtain ⟨-, hx, hb, -⟩ := C
  exact fun H ls locs hH hS hl => lv_if_le hx hb hdg ht (fun q => kt q H ls locs hH hS hl) (fun q => kf q H ls locs hH hS hl)
theorem g_icmp_le (C : Cx z w cc nL own d) {x y : Int32} {off : Int} {tgt : Nat} (ht : (pc : Int) + off = (tgt : Int)) (hdg : decode cc pc = .ok (.if_icmp .le off, 3))
    (kt : (x ≤ y) → G z w nL sg tu tgt L S) (kf : ¬ (x ≤ y) → G z w nL sg tu (pc + 3) L S) : G z w nL sg tu pc L (.int y :: .int x :: S) := by
  obtain ⟨p, l, e, R, s, m, args, below, meth, c, cells, slots, Q⟩ := z
  obtain ⟨-, hx, hb, -⟩ := C
  exact fun H ls locs hH hS hl => lv_icmp_le hx hb hdg ht (fun q => kt q H ls locs hH hS hl) (fun q => kf q H ls locs hH hS hl)
theorem g_tabOut (C : Cx z w cc nL own d) {dflt lo hi : Int} {offs : Array Int} {len : Nat} {x : Int32} {tgt : Nat} (hdg : decode cc pc = .ok (.tableswitch dflt lo hi offs, len)) (h : x.toInt < lo ∨ hi < x.toInt) (ht : (pc : Int) + dflt = (tgt : Int))
    (k : G z w nL sg tu tgt L S) : G z w nL sg tu pc L (.int x :: S) := by
  obtain ⟨p, l, e, R, s, m, args, below, meth, c, cells, slots, Q⟩ := z
  obtain ⟨-, hx, hb, -⟩ := C
  exact fun H ls locs hH hS hl => lv_tableOut hx hb hdg h ht (k H ls locs hH hS hl)
theorem g_tabIn (C : Cx z w cc nL own d) {dflt lo hi : Int} {offs : Array Int} {len : Nat} {x : Int32} {off : Int} {tgt : Nat} (hdg : decode cc pc = .ok (.tableswitch dflt lo hi offs, len)) (h1 : ¬ x.toInt < lo) (h2 : ¬ hi < x.toInt) (ho : offs[(x.toInt - lo).toNat]? = some off) (ht : (pc : Int) + off = (tgt : Int))
    (k : G z w nL sg tu tgt L S) : G z w nL sg tu pc L (.int x :: S) := by
  obtain ⟨p, l, e, R, s, m, args, below, meth, c, cells, slots, Q⟩ := z
  obtain ⟨-, hx, hb, -⟩ := C
  exact fun H ls locs hH hS hl => lv_tableIn hx hb hdg h1 h2 ho ht (k H ls locs hH hS hl)
theorem g_mabs (C : Cx z w cc nL own d) {x : Int32} {idx : Nat} (hlink : Cond.methodLink own idx Lib.Math.abs.name ∈ TG) (hst : Cond.static Lib.Math.abs.name ∈ TG) (hini : Cond.initialized "java/lang/Math" ∈ TG) (hcode : Cond.code Lib.Math.abs.name Lib.Math.abs.code 1 (some .int) ∈ TG) (hd : 1 ≤ d) (hS8 : (S.map fun v => v.category).sum ≤ 8) (hdg : decode cc pc = .ok (.invokestatic idx, 3))
    (k : G z w nL sg tu (pc + 3) L (.int (if 0 ≤ x then x else 0 - x) :: S)) : G z w nL sg tu pc L (.int x :: S) := by
  obtain ⟨p, l, e, R, s, m, args, below, meth, c, cells, slots, Q⟩ := z
  obtain ⟨-, hx, hb, hml, hown, hts, hK, hR, hc, hs⟩ := C
  exact fun H ls locs hH hS hl => va_mabs hx hb (hml.trans hl.1.symm) hown (hts _ hlink) (hts _ hst) (hts _ hini) (hts _ hcode) (by omega) (by omega) hc hs hdg (k H ls locs hH hS hl)
theorem g_mmin (C : Cx z w cc nL own d) {x y : Int32} {idx : Nat} (hlink : Cond.methodLink own idx Lib.Math.min.name ∈ TG) (hst : Cond.static Lib.Math.min.name ∈ TG) (hini : Cond.initialized "java/lang/Math" ∈ TG) (hcode : Cond.code Lib.Math.min.name Lib.Math.min.code 2 (some .int) ∈ TG) (hd : 1 ≤ d) (hS8 : (S.map fun v => v.category).sum ≤ 8) (hdg : decode cc pc = .ok (.invokestatic idx, 3))
    (k : G z w nL sg tu (pc + 3) L (.int (if y < x then y else x) :: S)) : G z w nL sg tu pc L (.int y :: .int x :: S) := by
  obtain ⟨p, l, e, R, s, m, args, below, meth, c, cells, slots, Q⟩ := z
  obtain ⟨-, hx, hb, hml, hown, hts, hK, hR, hc, hs⟩ := C
  exact fun H ls locs hH hS hl => va_mmin hx hb (hml.trans hl.1.symm) hown (hts _ hlink) (hts _ hst) (hts _ hini) (hts _ hcode) (by omega) (by omega) hc hs hdg (k H ls locs hH hS hl)
def ClsOk (ci : Nat) (C : String) (T : u_T) (N : Nat) (ty : Nat → FieldType) : Prop := vwCl[ci]? = some (C, T, N) ∧ (∀ x ∈ u_ws C T N, x ∈ TG) ∧ (∀ k, k < N → parseFieldDescriptor (T k).2.2.1 = some (ty k)) ∧ ∀ a, a < N → ∀ b, b < N → a ≠ b → (T a).2.1 ≠ (T b).2.1
theorem g_get (C : Cx z w cc nL own d) {ci N k j idx : Nat} {Cn : String} {T : u_T} {ty : Nat → FieldType} {fs : List (Nat × Nat)} {q : Nat × Nat} (hc : ClsOk ci Cn T N ty) (hs : shapes[k]? = some (.inr (ci, fs))) (hf : fs[j]? = some q) (hj : j < N) (hlink : Cond.fieldLink own idx (T j).1 (T j).2.1 (T j).2.2.1 ∈ TG) (hdg : decode cc pc = .ok (.getfield idx, 3))
    (kk : G z w nL sg tu (pc + 3) L (va1 w (sg k j) tu q :: S)) : G z w nL sg tu pc L (.ref (ad w k) :: S) := by
  obtain ⟨p, l, e, R, s, m, args, below, meth, c, cells, slots, Q⟩ := z
  obtain ⟨-, hx, hb, hml, hown, hts, hK, -⟩ := C
  exact fun H ls locs hH hS hl => va_get hx hb hts hc.2.1 hown hK.1 hH k (wl_get hs) hc.1 j hj (hts _ hlink) (fun _ h => h) (by rw [List.getElem?_mapIdx, hf]; rfl) hdg (kk H ls locs hH hS hl)
theorem g_getI (C : Cx z w cc nL own d) {ci N k j idx q : Nat} {Cn : String} {T : u_T} {ty : Nat → FieldType} {fs : List (Nat × Nat)} (hc : ClsOk ci Cn T N ty) (hs : shapes[k]? = some (.inr (ci, fs))) (hf : fs[j]? = some (0, q)) (hj : j < N) (hlink : Cond.fieldLink own idx (T j).1 (T j).2.1 (T j).2.2.1 ∈ TG) (hdg : decode cc pc = .ok (.getfield idx, 3))
    (kk : G z w nL sg tu (pc + 3) L (.int (sg k j) :: S)) : G z w nL sg tu pc L (.ref (ad w k) :: S) := g_get C hc hs hf hj hlink hdg kk
theorem g_getR (C : Cx z w cc nL own d) {ci N k j idx q : Nat} {Cn : String} {T : u_T} {ty : Nat → FieldType} {fs : List (Nat × Nat)} (hc : ClsOk ci Cn T N ty) (hs : shapes[k]? = some (.inr (ci, fs))) (hf : fs[j]? = some (1, q)) (hj : j < N) (hlink : Cond.fieldLink own idx (T j).1 (T j).2.1 (T j).2.2.1 ∈ TG) (hdg : decode cc pc = .ok (.getfield idx, 3))
    (kk : G z w nL sg tu (pc + 3) L (.ref (ad w q) :: S)) : G z w nL sg tu pc L (.ref (ad w k) :: S) := g_get C hc hs hf hj hlink hdg kk
theorem g_getL (C : Cx z w cc nL own d) {ci N k j idx q : Nat} {Cn : String} {T : u_T} {ty : Nat → FieldType} {fs : List (Nat × Nat)} (hc : ClsOk ci Cn T N ty) (hs : shapes[k]? = some (.inr (ci, fs))) (hf : fs[j]? = some (2, q)) (hj : j < N) (hlink : Cond.fieldLink own idx (T j).1 (T j).2.1 (T j).2.2.1 ∈ TG) (hdg : decode cc pc = .ok (.getfield idx, 3))
    (kk : G z w nL sg tu (pc + 3) L (.long tu :: S)) : G z w nL sg tu pc L (.ref (ad w k) :: S) := g_get C hc hs hf hj hlink hdg kk
theorem mapIdx_set {w : GW} {f : Nat → Int32} {tu : Int64} {fs : List (Nat × Nat)} {j q : Nat} (hf : fs[j]? = some (0, q)) (x : Int32) : (fs.mapIdx (fun j q => va1 w (f j) tu q)).set j (.int x) = fs.mapIdx (fun i q => va1 w (upd f j x i) tu q) := by
  apply List.ext_getElem?
  intro i
  have hl : j < fs.length := (List.getElem?_eq_some_iff.mp hf).1
  by_cases hi : i = j
  · subst hi
    rw [List.getElem?_set_self (by simpa using hl), List.getElem?_mapIdx, hf]
    simp [va1, upd]
  · rw [List.getElem?_set_ne (Ne.symm hi), List.getElem?_mapIdx, List.getElem?_mapIdx]
    simp [upd, hi]
theorem g_putI (C : Cx z w cc nL own d) {ci N k j idx q : Nat} {Cn : String} {T : u_T} {ty : Nat → FieldType} {fs : List (Nat × Nat)} (hc : ClsOk ci Cn T N ty) (hs : shapes[k]? = some (.inr (ci, fs))) (hf : fs[j]? = some (0, q)) (hj : j < N) (hfin : (T j).2.2.2 = false) (hty : ty j = .int) (hlink : Cond.fieldLink own idx (T j).1 (T j).2.1 (T j).2.2.1 ∈ TG) (hdg : decode cc pc = .ok (.putfield idx, 3)) {x : Int32}
    (kk : G z w nL (us sg k (upd (sg k) j x)) tu (pc + 3) L S) : G z w nL sg tu pc L (.int x :: .ref (ad w k) :: S) := by
  obtain ⟨p, l, e, R, s, m, args, below, meth, c, cells, slots, Q⟩ := z
  obtain ⟨-, hx, hb, hml, hown, hts, hK, -⟩ := C
  have hl : j < (fs.mapIdx (fun j q => va1 w (sg k j) tu q)).length := by rw [List.length_mapIdx]; exact (List.getElem?_eq_some_iff.mp hf).1
  have hd : parseFieldDescriptor (T j).2.2.1 = some .int := by rw [← hty]; exact hc.2.2.1 j hj
  refine fun H ls locs hH hS hl0 => va_put hx hb hts hc.2.1 ty hc.2.2.1 hc.2.2.2 hown hK.1 hH (wl_D hK.2.2) hS k (wl_get hs) hc.1 j hj (hts _ hlink) (fun _ h => h) hfin hd (vp_nar_int x) rfl hl hdg (fun H1 locs1 hP1 _ hS1 => kk H1 ls locs1 ?_ hS1 hl0)
  rw [wl_set (sg' := us sg k (upd (sg k) j x)) (tu' := tu) hs ?_ (fun i sh hi _ => ce_ne i sh hi)] at hP1
  · exact hP1
  · show _ = Sum.inr (ci, _)
    rw [mapIdx_set hf, us_same]
theorem g_iald (C : Cx z w cc nL own d) {k N : Nat} (hs : shapes[k]? = some (.inl (0, N))) {i : Int32} (hin : vp_in i N) (hdg : decode cc pc = .ok (.iaload, 1))
    (kk : G z w nL sg tu (pc + 1) L (.int (sg k i.toNatClampNeg) :: S)) : G z w nL sg tu pc L (.int i :: .ref (ad w k) :: S) := by
  obtain ⟨p, l, e, R, s, m, args, below, meth, c, cells, slots, Q⟩ := z
  obtain ⟨-, hx, hb, hml, hown, hts, hK, -⟩ := C
  exact fun H ls locs hH hS hl => va_iald hx hb hK.1 hH k 0 (wl_get hs) rfl hin hdg (kk H ls locs hH hS hl)
theorem g_bald (C : Cx z w cc nL own d) {k N : Nat} (hs : shapes[k]? = some (.inl (1, N))) {i : Int32} (hin : vp_in i N) (hdg : decode cc pc = .ok (.baload, 1))
    (kk : G z w nL sg tu (pc + 1) L (.int (sg k i.toNatClampNeg) :: S)) : G z w nL sg tu pc L (.int i :: .ref (ad w k) :: S) := by
  obtain ⟨p, l, e, R, s, m, args, below, meth, c, cells, slots, Q⟩ := z
  obtain ⟨-, hx, hb, hml, hown, hts, hK, -⟩ := C
  exact fun H ls locs hH hS hl => va_bald hx hb hK.1 hH k 1 (wl_get hs) rfl hin hdg (kk H ls locs hH hS hl)
theorem g_aald (C : Cx z w cc nL own d) {k N : Nat} (hs : shapes[k]? = some (.inl (2, N))) {i : Int32} (hin : vp_in i N) (hdg : decode cc pc = .ok (.aaload, 1))
    (kk : G z w nL sg tu (pc + 1) L (.ref (ad w (13 + 5 * i.toNatClampNeg)) :: S)) : G z w nL sg tu pc L (.int i :: .ref (ad w k) :: S) := by
  obtain ⟨p, l, e, R, s, m, args, below, meth, c, cells, slots, Q⟩ := z
  obtain ⟨-, hx, hb, hml, hown, hts, hK, -⟩ := C
  exact fun H ls locs hH hS hl => va_aldq hx hb hK.1 hH k 2 (wl_get hs) rfl hin hdg (kk H ls locs hH hS hl)
theorem g_alen (C : Cx z w cc nL own d) {k N : Nat} (hs : shapes[k]? = some (.inl (0, N))) (hdg : decode cc pc = .ok (.arraylength, 1))
    (kk : G z w nL sg tu (pc + 1) L (.int (nI N) :: S)) : G z w nL sg tu pc L (.ref (ad w k) :: S) := by
  obtain ⟨p, l, e, R, s, m, args, below, meth, c, cells, slots, Q⟩ := z
  obtain ⟨-, hx, hb, hml, hown, hts, hK, -⟩ := C
  exact fun H ls locs hH hS hl => va_alen hx hb hK.1 hH k 0 (wl_get hs) rfl rfl hdg (kk H ls locs hH hS hl)
theorem g_iast (C : Cx z w cc nL own d) {k N : Nat} (hs : shapes[k]? = some (.inl (0, N))) {i x : Int32} (hin : vp_in i N) (hdg : decode cc pc = .ok (.iastore, 1))
    (kk : G z w nL (us sg k (upd (sg k) i.toNatClampNeg x)) tu (pc + 1) L S) : G z w nL sg tu pc L (.int x :: .int i :: .ref (ad w k) :: S) := by
  obtain ⟨p, l, e, R, s, m, args, below, meth, c, cells, slots, Q⟩ := z
  obtain ⟨-, hx, hb, hml, hown, hts, hK, -⟩ := C
  refine fun H ls locs hH hS hl => va_iast hx hb hK.1 hH (wl_D hK.2.2) hS k 0 (wl_get hs) rfl hin hdg (fun H1 locs1 hP1 _ hS1 => kk H1 ls locs1 ?_ hS1 hl)
  rw [wl_set (sg' := us sg k (upd (sg k) i.toNatClampNeg x)) (tu' := tu) hs ?_ (fun i sh hi _ => ce_ne i sh hi)] at hP1
  · exact hP1
  · show _ = Sum.inl (gc w 0, N, Sum.inl _)
    rw [us_same]
theorem g_bast (C : Cx z w cc nL own d) {k N : Nat} (hs : shapes[k]? = some (.inl (1, N))) {i x : Int32} (hin : vp_in i N) (hdg : decode cc pc = .ok (.bastore, 1))
    (kk : G z w nL (us sg k (upd (sg k) i.toNatClampNeg (vp_nar .byte x))) tu (pc + 1) L S) : G z w nL sg tu pc L (.int x :: .int i :: .ref (ad w k) :: S) := by
  obtain ⟨p, l, e, R, s, m, args, below, meth, c, cells, slots, Q⟩ := z
  obtain ⟨-, hx, hb, hml, hown, hts, hK, -⟩ := C
  refine fun H ls locs hH hS hl => va_bast hx hb hK.1 hH (wl_D hK.2.2) hS k 1 (wl_get hs) rfl hin hdg (fun H1 locs1 hP1 _ hS1 => kk H1 ls locs1 ?_ hS1 hl)
  rw [wl_set (sg' := us sg k (upd (sg k) i.toNatClampNeg (vp_nar .byte x))) (tu' := tu) hs ?_ (fun i sh hi _ => ce_ne i sh hi)] at hP1
  · exact hP1
  · show _ = Sum.inl (gc w 1, N, Sum.inl _)
    rw [us_same]
theorem g_copy (C : Cx z w cc nL own d) {k k0 N : Nat} (hs : shapes[k]? = some (.inl (0, N))) (hs0 : shapes[k0]? = some (.inl (0, N))) {n : Int32} (hn : nI N = n) (hN : N < 2 ^ 31) {idx : Nat} (hd : 1 ≤ d) (hS8 : (S.map fun v => v.category).sum ≤ 8) (hlink : Cond.methodLink own idx arraycopyName ∈ TG) (hnat : Cond.native arraycopyName ∈ TG) (hstat : Cond.static arraycopyName ∈ TG) (hini : Cond.initialized "java/lang/System" ∈ TG) (hdg : decode cc pc = .ok (.invokestatic idx, 3))
    (kk : G z w nL (us sg k (sg k0)) tu (pc + 3) L S) : G z w nL sg tu pc L (.int n :: .int 0 :: .ref (ad w k) :: .int 0 :: .ref (ad w k0) :: S) := by
  obtain ⟨p, l, e, R, s, m, args, below, meth, c, cells, slots, Q⟩ := z
  obtain ⟨-, hx, hb, hml, hown, hts, hK, hR, -⟩ := C
  have hnc : n.toNatClampNeg = N := by rw [← hn]; exact nI_clamp hN
  have h0c : (0 : Int32).toNatClampNeg = 0 := sb_cl0
  have hz : ¬ (0 : Int32) < 0 := by decide
  have hn0 : ¬ n < 0 := by rw [← hn]; exact nI_pos hN
  have hnw : nativeFrameWords "java/lang/System" "arraycopy" 5 + 11 ≤ 24 := by decide
  refine fun H ls locs hH hS hl => va_copyi hx hb (hml.trans hl.1.symm) hown (hts _ hlink) (hts _ hnat) (hts _ hstat) (hts _ hini) hK.1 hH (wl_D hK.2.2) hS k0 k 0 0 (wl_get hs0) (wl_get hs) rfl rfl rfl hz hz hn0 (by rw [h0c, hnc]; omega) (by rw [h0c, hnc]; omega) (fun _ _ => rfl) (by omega) (by omega) hdg (fun H1 locs1 hP1 _ hS1 => kk H1 ls locs1 ?_ hS1 hl)
  have e1 : Sq (us sg k (va_cpy (sg k0) (sg k) 0 0 N)) (us sg k (sg k0)) := by
    intro i j hj
    by_cases hi : i = k
    · subst hi
      have hj2 : j < N := by simpa [ln, hs, lnS] using hj
      rw [us_same, us_same, pk_cpy_in (by omega) (by omega)]
      congr 1
      omega
    · rw [us_ne hi, us_ne hi]
  rw [hnc, h0c, wl_set (sg' := us sg k (va_cpy (sg k0) (sg k) 0 0 N)) (tu' := tu) hs ?_ (fun i sh hi _ => ce_ne i sh hi)] at hP1
  · exact Hp.sq e1 hP1
  · show _ = Sum.inl (gc w 0, N, Sum.inl _)
    rw [us_same]
end GR
end
section
theorem ini_L : Cond.initialized RL ∈ TG := TG_in 47 (by decide +kernel) rfl
theorem ini_X4 : Cond.initialized RX4 ∈ TG := TG_in 48 (by decide +kernel) rfl
theorem ini_X3 : Cond.initialized RX3 ∈ TG := TG_in 49 (by decide +kernel) rfl
theorem ini_X1 : Cond.initialized RX1 ∈ TG := TG_in 50 (by decide +kernel) rfl
theorem ini_X2 : Cond.initialized RX2 ∈ TG := TG_in 51 (by decide +kernel) rfl
theorem ini_X0 : Cond.initialized RX0 ∈ TG := TG_in 52 (by decide +kernel) rfl
theorem ini_X5 : Cond.initialized RX5 ∈ TG := TG_in 53 (by decide +kernel) rfl
theorem ini_J10 : Cond.initialized RJ10 ∈ TG := TG_in 54 (by decide +kernel) rfl
theorem ini_J9 : Cond.initialized RJ9 ∈ TG := TG_in 55 (by decide +kernel) rfl
theorem ini_J6 : Cond.initialized RJ6 ∈ TG := TG_in 56 (by decide +kernel) rfl
theorem ini_J7 : Cond.initialized RJ7 ∈ TG := TG_in 57 (by decide +kernel) rfl
theorem se_X4_remember : Cond.selects yX4_remember.cls yX4_remember yX4_remember ∈ TG := TG_in 0 (by decide +kernel) rfl
theorem se_X4_settled : Cond.selects yX4_settled.cls yX4_settled yX4_settled ∈ TG := TG_in 1 (by decide +kernel) rfl
theorem se_X4_counted : Cond.selects yX4_counted.cls yX4_counted yX4_counted ∈ TG := TG_in 2 (by decide +kernel) rfl
theorem se_X3_turnOnce : Cond.selects yX3_turnOnce.cls yX3_turnOnce yX3_turnOnce ∈ TG := TG_in 3 (by decide +kernel) rfl
theorem se_X3_given : Cond.selects yX3_given.cls yX3_given yX3_given ∈ TG := TG_in 4 (by decide +kernel) rfl
theorem se_X3_turnDownTillBell : Cond.selects yX3_turnDownTillBell.cls yX3_turnDownTillBell yX3_turnDownTillBell ∈ TG := TG_in 5 (by decide +kernel) rfl
theorem se_X3_wornTeeth : Cond.selects yX3_wornTeeth.cls yX3_wornTeeth yX3_wornTeeth ∈ TG := TG_in 6 (by decide +kernel) rfl
theorem se_X0_readOrder : Cond.selects yX0_readOrder.cls yX0_readOrder yX0_readOrder ∈ TG := TG_in 7 (by decide +kernel) rfl
theorem se_X0_skipBlanks : Cond.selects yX0_skipBlanks.cls yX0_skipBlanks yX0_skipBlanks ∈ TG := TG_in 8 (by decide +kernel) rfl
theorem se_X0_readNumber : Cond.selects yX0_readNumber.cls yX0_readNumber yX0_readNumber ∈ TG := TG_in 9 (by decide +kernel) rfl
theorem se_X4_perform : Cond.selects yX4_perform.cls yX4_perform yX4_perform ∈ TG := TG_in 10 (by decide +kernel) rfl
theorem se_X5_refuses : Cond.selects yX5_refuses.cls yX5_refuses yX5_refuses ∈ TG := TG_in 11 (by decide +kernel) rfl
theorem se_X5_laysAside : Cond.selects yX5_laysAside.cls yX5_laysAside yX5_laysAside ∈ TG := TG_in 12 (by decide +kernel) rfl
theorem se_X5_putDigit : Cond.selects yX5_putDigit.cls yX5_putDigit yX5_putDigit ∈ TG := TG_in 13 (by decide +kernel) rfl
theorem se_X5_change : Cond.selects yX5_change.cls yX5_change yX5_change ∈ TG := TG_in 14 (by decide +kernel) rfl
theorem se_X5_finished : Cond.selects yX5_finished.cls yX5_finished yX5_finished ∈ TG := TG_in 15 (by decide +kernel) rfl
theorem se_X5_remembers : Cond.selects yX5_remembers.cls yX5_remembers yX5_remembers ∈ TG := TG_in 16 (by decide +kernel) rfl
theorem se_X5_putInput : Cond.selects yX5_putInput.cls yX5_putInput yX5_putInput ∈ TG := TG_in 17 (by decide +kernel) rfl
theorem se_X5_putShift : Cond.selects yX5_putShift.cls yX5_putShift yX5_putShift ∈ TG := TG_in 18 (by decide +kernel) rfl
theorem se_X5_putReach : Cond.selects yX5_putReach.cls yX5_putReach yX5_putReach ∈ TG := TG_in 19 (by decide +kernel) rfl
theorem se_X5_putWorn : Cond.selects yX5_putWorn.cls yX5_putWorn yX5_putWorn ∈ TG := TG_in 20 (by decide +kernel) rfl
theorem se_X5_clearsAll : Cond.selects yX5_clearsAll.cls yX5_clearsAll yX5_clearsAll ∈ TG := TG_in 21 (by decide +kernel) rfl
theorem se_X5_clearsCounters : Cond.selects yX5_clearsCounters.cls yX5_clearsCounters yX5_clearsCounters ∈ TG := TG_in 22 (by decide +kernel) rfl
theorem se_X5_putWheels : Cond.selects yX5_putWheels.cls yX5_putWheels yX5_putWheels ∈ TG := TG_in 23 (by decide +kernel) rfl
theorem se_X5_doesTurns : Cond.selects yX5_doesTurns.cls yX5_doesTurns yX5_doesTurns ∈ TG := TG_in 24 (by decide +kernel) rfl
theorem se_X5_laysGives : Cond.selects yX5_laysGives.cls yX5_laysGives yX5_laysGives ∈ TG := TG_in 25 (by decide +kernel) rfl
theorem se_X5_turnsOnce : Cond.selects yX5_turnsOnce.cls yX5_turnsOnce yX5_turnsOnce ∈ TG := TG_in 26 (by decide +kernel) rfl
theorem se_X5_turnsBy : Cond.selects yX5_turnsBy.cls yX5_turnsBy yX5_turnsBy ∈ TG := TG_in 27 (by decide +kernel) rfl
theorem se_X5_doesTimes : Cond.selects yX5_doesTimes.cls yX5_doesTimes yX5_doesTimes ∈ TG := TG_in 28 (by decide +kernel) rfl
theorem se_X5_laysPlan : Cond.selects yX5_laysPlan.cls yX5_laysPlan yX5_laysPlan ∈ TG := TG_in 29 (by decide +kernel) rfl
theorem se_X5_doesDivide : Cond.selects yX5_doesDivide.cls yX5_doesDivide yX5_doesDivide ∈ TG := TG_in 30 (by decide +kernel) rfl
theorem se_X5_downs0 : Cond.selects yX5_downs0.cls yX5_downs0 yX5_downs0 ∈ TG := TG_in 31 (by decide +kernel) rfl
theorem se_X5_takesBack : Cond.selects yX5_takesBack.cls yX5_takesBack yX5_takesBack ∈ TG := TG_in 32 (by decide +kernel) rfl
theorem se_X5_drumTold : Cond.selects yX5_drumTold.cls yX5_drumTold yX5_drumTold ∈ TG := TG_in 33 (by decide +kernel) rfl
theorem se_X5_countTold : Cond.selects yX5_countTold.cls yX5_countTold yX5_countTold ∈ TG := TG_in 34 (by decide +kernel) rfl
theorem se_X5_trialOf : Cond.selects yX5_trialOf.cls yX5_trialOf yX5_trialOf ∈ TG := TG_in 35 (by decide +kernel) rfl
theorem se_X5_tries : Cond.selects yX5_tries.cls yX5_tries yX5_tries ∈ TG := TG_in 36 (by decide +kernel) rfl
theorem se_X5_explained : Cond.selects yX5_explained.cls yX5_explained yX5_explained ∈ TG := TG_in 37 (by decide +kernel) rfl
theorem se_X5_isRead : Cond.selects yX5_isRead.cls yX5_isRead yX5_isRead ∈ TG := TG_in 38 (by decide +kernel) rfl
theorem se_X5_blanks : Cond.selects yX5_blanks.cls yX5_blanks yX5_blanks ∈ TG := TG_in 39 (by decide +kernel) rfl
theorem se_X5_isAt : Cond.selects yX5_isAt.cls yX5_isAt yX5_isAt ∈ TG := TG_in 40 (by decide +kernel) rfl
theorem se_X5_takesOrder : Cond.selects yX5_takesOrder.cls yX5_takesOrder yX5_takesOrder ∈ TG := TG_in 41 (by decide +kernel) rfl
theorem se_X5_fails : Cond.selects yX5_fails.cls yX5_fails yX5_fails ∈ TG := TG_in 42 (by decide +kernel) rfl
theorem se_X5_takesNumber : Cond.selects yX5_takesNumber.cls yX5_takesNumber yX5_takesNumber ∈ TG := TG_in 43 (by decide +kernel) rfl
theorem se_X5_doneOne : Cond.selects yX5_doneOne.cls yX5_doneOne yX5_doneOne ∈ TG := TG_in 44 (by decide +kernel) rfl
theorem se_X5_toldAt : Cond.selects yX5_toldAt.cls yX5_toldAt yX5_toldAt ∈ TG := TG_in 45 (by decide +kernel) rfl
theorem se_X5_mix : Cond.selects yX5_mix.cls yX5_mix yX5_mix ∈ TG := TG_in 46 (by decide +kernel) rfl
theorem ml_L_9 : Cond.methodLink RL 9 yX4_init ∈ TG := TG_in 60 (by decide +kernel) rfl
theorem im_X4_init : Cond.instanceMethod yX4_init ∈ TG := TG_in 61 (by decide +kernel) rfl
theorem co_X4_init : Cond.code yX4_init cX4_init 1 none ∈ TG := TG_in 62 (by decide +kernel) rfl
theorem mt_X4_init : Mt yX4_init cX4_init 1 none 0 := ⟨co_X4_init, ini_X4, ⟨by decide +kernel, by decide +kernel, by decide +kernel⟩, by decide⟩
theorem ml_X4_1 : Cond.methodLink RX4 1 objectInit ∈ TG := TG_in 63 (by decide +kernel) rfl
theorem im_objectInit : Cond.instanceMethod objectInit ∈ TG := TG_in 64 (by decide +kernel) rfl
theorem co_objectInit : Cond.code objectInit ⟨#[0xb1]⟩ 1 none ∈ TG := TG_in 65 (by decide +kernel) rfl
theorem im_X3_init : Cond.instanceMethod yX3_init ∈ TG := TG_in 69 (by decide +kernel) rfl
theorem co_X3_init : Cond.code yX3_init cX3_init 1 none ∈ TG := TG_in 70 (by decide +kernel) rfl
theorem mt_X3_init : Mt yX3_init cX3_init 1 none 0 := ⟨co_X3_init, ini_X3, ⟨by decide +kernel, by decide +kernel, by decide +kernel⟩, by decide⟩
theorem ml_X3_3 : Cond.methodLink RX3 3 objectInit ∈ TG := TG_in 71 (by decide +kernel) rfl
theorem fl_X3_9 : Cond.fieldLink RX3 9 (TX3 0).1 (TX3 0).2.1 (TX3 0).2.2.1 ∈ TG := TG_in 72 (by decide +kernel) rfl
theorem fl_X3_15 : Cond.fieldLink RX3 15 (TX3 1).1 (TX3 1).2.1 (TX3 1).2.2.1 ∈ TG := TG_in 73 (by decide +kernel) rfl
theorem fl_X3_18 : Cond.fieldLink RX3 18 (TX3 2).1 (TX3 2).2.1 (TX3 2).2.2.1 ∈ TG := TG_in 74 (by decide +kernel) rfl
theorem fl_X4_95 : Cond.fieldLink RX4 95 (TX3 2).1 (TX3 2).2.1 (TX3 2).2.2.1 ∈ TG := TG_in 75 (by decide +kernel) rfl
theorem fl_X3_21 : Cond.fieldLink RX3 21 (TX3 3).1 (TX3 3).2.1 (TX3 3).2.2.1 ∈ TG := TG_in 76 (by decide +kernel) rfl
theorem fl_X4_105 : Cond.fieldLink RX4 105 (TX3 3).1 (TX3 3).2.1 (TX3 3).2.2.1 ∈ TG := TG_in 77 (by decide +kernel) rfl
theorem fl_X3_24 : Cond.fieldLink RX3 24 (TX3 4).1 (TX3 4).2.1 (TX3 4).2.2.1 ∈ TG := TG_in 78 (by decide +kernel) rfl
theorem fl_X3_28 : Cond.fieldLink RX3 28 (TX3 5).1 (TX3 5).2.1 (TX3 5).2.2.1 ∈ TG := TG_in 79 (by decide +kernel) rfl
theorem fl_X3_31 : Cond.fieldLink RX3 31 (TX3 6).1 (TX3 6).2.1 (TX3 6).2.2.1 ∈ TG := TG_in 80 (by decide +kernel) rfl
theorem fl_X3_34 : Cond.fieldLink RX3 34 (TX3 7).1 (TX3 7).2.1 (TX3 7).2.2.1 ∈ TG := TG_in 81 (by decide +kernel) rfl
theorem ml_X4_21 : Cond.methodLink RX4 21 yX1_init ∈ TG := TG_in 102 (by decide +kernel) rfl
theorem im_X1_init : Cond.instanceMethod yX1_init ∈ TG := TG_in 103 (by decide +kernel) rfl
theorem co_X1_init : Cond.code yX1_init cX1_init 2 none ∈ TG := TG_in 104 (by decide +kernel) rfl
theorem mt_X1_init : Mt yX1_init cX1_init 2 none 0 := ⟨co_X1_init, ini_X1, ⟨by decide +kernel, by decide +kernel, by decide +kernel⟩, by decide⟩
theorem ml_X1_3 : Cond.methodLink RX1 3 objectInit ∈ TG := TG_in 105 (by decide +kernel) rfl
theorem fl_X1_11 : Cond.fieldLink RX1 11 (TX1 0).1 (TX1 0).2.1 (TX1 0).2.2.1 ∈ TG := TG_in 109 (by decide +kernel) rfl
theorem fl_X1_17 : Cond.fieldLink RX1 17 (TX1 1).1 (TX1 1).2.1 (TX1 1).2.2.1 ∈ TG := TG_in 110 (by decide +kernel) rfl
theorem fl_X1_21 : Cond.fieldLink RX1 21 (TX1 2).1 (TX1 2).2.1 (TX1 2).2.2.1 ∈ TG := TG_in 111 (by decide +kernel) rfl
theorem fl_X4_162 : Cond.fieldLink RX4 162 (TX1 2).1 (TX1 2).2.1 (TX1 2).2.2.1 ∈ TG := TG_in 112 (by decide +kernel) rfl
theorem im_X2_init : Cond.instanceMethod yX2_init ∈ TG := TG_in 123 (by decide +kernel) rfl
theorem co_X2_init : Cond.code yX2_init cX2_init 1 none ∈ TG := TG_in 124 (by decide +kernel) rfl
theorem mt_X2_init : Mt yX2_init cX2_init 1 none 0 := ⟨co_X2_init, ini_X2, ⟨by decide +kernel, by decide +kernel, by decide +kernel⟩, by decide⟩
theorem ml_X2_3 : Cond.methodLink RX2 3 objectInit ∈ TG := TG_in 125 (by decide +kernel) rfl
theorem fl_X2_9 : Cond.fieldLink RX2 9 (TX2 0).1 (TX2 0).2.1 (TX2 0).2.2.1 ∈ TG := TG_in 126 (by decide +kernel) rfl
theorem fl_X2_15 : Cond.fieldLink RX2 15 (TX2 1).1 (TX2 1).2.1 (TX2 1).2.2.1 ∈ TG := TG_in 127 (by decide +kernel) rfl
theorem fl_X0_36 : Cond.fieldLink RX0 36 (TX2 1).1 (TX2 1).2.1 (TX2 1).2.2.1 ∈ TG := TG_in 128 (by decide +kernel) rfl
theorem fl_X4_175 : Cond.fieldLink RX4 175 (TX2 1).1 (TX2 1).2.1 (TX2 1).2.2.1 ∈ TG := TG_in 129 (by decide +kernel) rfl
theorem im_X0_init : Cond.instanceMethod yX0_init ∈ TG := TG_in 139 (by decide +kernel) rfl
theorem co_X0_init : Cond.code yX0_init cX0_init 1 none ∈ TG := TG_in 140 (by decide +kernel) rfl
theorem mt_X0_init : Mt yX0_init cX0_init 1 none 0 := ⟨co_X0_init, ini_X0, ⟨by decide +kernel, by decide +kernel, by decide +kernel⟩, by decide⟩
theorem ml_X0_3 : Cond.methodLink RX0 3 objectInit ∈ TG := TG_in 141 (by decide +kernel) rfl
theorem fl_X0_9 : Cond.fieldLink RX0 9 (TX0 0).1 (TX0 0).2.1 (TX0 0).2.2.1 ∈ TG := TG_in 142 (by decide +kernel) rfl
theorem fl_X4_142 : Cond.fieldLink RX4 142 (TX0 0).1 (TX0 0).2.1 (TX0 0).2.2.1 ∈ TG := TG_in 143 (by decide +kernel) rfl
theorem fl_X0_15 : Cond.fieldLink RX0 15 (TX0 1).1 (TX0 1).2.1 (TX0 1).2.2.1 ∈ TG := TG_in 144 (by decide +kernel) rfl
theorem fl_X4_145 : Cond.fieldLink RX4 145 (TX0 1).1 (TX0 1).2.1 (TX0 1).2.2.1 ∈ TG := TG_in 145 (by decide +kernel) rfl
theorem fl_X0_18 : Cond.fieldLink RX0 18 (TX0 2).1 (TX0 2).2.1 (TX0 2).2.2.1 ∈ TG := TG_in 146 (by decide +kernel) rfl
theorem fl_X4_148 : Cond.fieldLink RX4 148 (TX0 2).1 (TX0 2).2.1 (TX0 2).2.2.1 ∈ TG := TG_in 147 (by decide +kernel) rfl
theorem fl_X0_21 : Cond.fieldLink RX0 21 (TX0 3).1 (TX0 3).2.1 (TX0 3).2.2.1 ∈ TG := TG_in 148 (by decide +kernel) rfl
theorem fl_X4_138 : Cond.fieldLink RX4 138 (TX0 3).1 (TX0 3).2.1 (TX0 3).2.2.1 ∈ TG := TG_in 149 (by decide +kernel) rfl
theorem fl_X0_25 : Cond.fieldLink RX0 25 (TX0 4).1 (TX0 4).2.1 (TX0 4).2.2.1 ∈ TG := TG_in 150 (by decide +kernel) rfl
theorem fl_X0_52 : Cond.fieldLink RX0 52 (TX0 5).1 (TX0 5).2.1 (TX0 5).2.2.1 ∈ TG := TG_in 151 (by decide +kernel) rfl
theorem fl_X4_10 : Cond.fieldLink RX4 10 (TX4 0).1 (TX4 0).2.1 (TX4 0).2.2.1 ∈ TG := TG_in 165 (by decide +kernel) rfl
theorem fl_X4_16 : Cond.fieldLink RX4 16 (TX4 1).1 (TX4 1).2.1 (TX4 1).2.2.1 ∈ TG := TG_in 166 (by decide +kernel) rfl
theorem fl_X4_22 : Cond.fieldLink RX4 22 (TX4 2).1 (TX4 2).2.1 (TX4 2).2.2.1 ∈ TG := TG_in 167 (by decide +kernel) rfl
theorem fl_X4_29 : Cond.fieldLink RX4 29 (TX4 3).1 (TX4 3).2.1 (TX4 3).2.2.1 ∈ TG := TG_in 168 (by decide +kernel) rfl
theorem fl_X4_36 : Cond.fieldLink RX4 36 (TX4 4).1 (TX4 4).2.1 (TX4 4).2.2.1 ∈ TG := TG_in 169 (by decide +kernel) rfl
theorem fl_X4_166 : Cond.fieldLink RX4 166 (TX4 5).1 (TX4 5).2.1 (TX4 5).2.2.1 ∈ TG := TG_in 170 (by decide +kernel) rfl
theorem fl_X4_169 : Cond.fieldLink RX4 169 (TX4 6).1 (TX4 6).2.1 (TX4 6).2.2.1 ∈ TG := TG_in 171 (by decide +kernel) rfl
theorem fl_X4_172 : Cond.fieldLink RX4 172 (TX4 7).1 (TX4 7).2.1 (TX4 7).2.2.1 ∈ TG := TG_in 172 (by decide +kernel) rfl
theorem ml_L_13 : Cond.methodLink RL 13 yX4_sets ∈ TG := TG_in 190 (by decide +kernel) rfl
theorem im_X4_sets : Cond.instanceMethod yX4_sets ∈ TG := TG_in 191 (by decide +kernel) rfl
theorem se_X4_sets : Cond.selects yX4_sets.cls yX4_sets yX4_sets ∈ TG := TG_in 192 (by decide +kernel) rfl
theorem co_X4_sets : Cond.code yX4_sets cX4_sets 3 (some .int) ∈ TG := TG_in 193 (by decide +kernel) rfl
theorem mt_X4_sets : Mt yX4_sets cX4_sets 3 (some .int) 2 := ⟨co_X4_sets, ini_X4, ⟨by decide +kernel, by decide +kernel, by decide +kernel⟩, by decide⟩
theorem ml_X4_40 : Cond.methodLink RX4 40 yX4_remember ∈ TG := TG_in 194 (by decide +kernel) rfl
theorem im_X4_remember : Cond.instanceMethod yX4_remember ∈ TG := TG_in 196 (by decide +kernel) rfl
theorem co_X4_remember : Cond.code yX4_remember cX4_remember 1 none ∈ TG := TG_in 197 (by decide +kernel) rfl
theorem mt_X4_remember : Mt yX4_remember cX4_remember 1 none 0 := ⟨co_X4_remember, ini_X4, ⟨by decide +kernel, by decide +kernel, by decide +kernel⟩, by decide⟩
theorem ml_X4_155 : Cond.methodLink RX4 155 yX3_copyFrom ∈ TG := TG_in 198 (by decide +kernel) rfl
theorem im_X3_copyFrom : Cond.instanceMethod yX3_copyFrom ∈ TG := TG_in 199 (by decide +kernel) rfl
theorem se_X3_copyFrom : Cond.selects yX3_copyFrom.cls yX3_copyFrom yX3_copyFrom ∈ TG := TG_in 200 (by decide +kernel) rfl
theorem co_X3_copyFrom : Cond.code yX3_copyFrom cX3_copyFrom 2 none ∈ TG := TG_in 201 (by decide +kernel) rfl
theorem mt_X3_copyFrom : Mt yX3_copyFrom cX3_copyFrom 2 none 1 := ⟨co_X3_copyFrom, ini_X3, ⟨by decide +kernel, by decide +kernel, by decide +kernel⟩, by decide⟩
theorem ml_X3_37 : Cond.methodLink RX3 37 arraycopyName ∈ TG := TG_in 202 (by decide +kernel) rfl
theorem st_arraycopyName : Cond.static arraycopyName ∈ TG := TG_in 203 (by decide +kernel) rfl
theorem na_arraycopyName : Cond.native arraycopyName ∈ TG := TG_in 204 (by decide +kernel) rfl
theorem ml_X4_43 : Cond.methodLink RX4 43 yX3_setDrum ∈ TG := TG_in 205 (by decide +kernel) rfl
theorem im_X3_setDrum : Cond.instanceMethod yX3_setDrum ∈ TG := TG_in 206 (by decide +kernel) rfl
theorem se_X3_setDrum : Cond.selects yX3_setDrum.cls yX3_setDrum yX3_setDrum ∈ TG := TG_in 207 (by decide +kernel) rfl
theorem co_X3_setDrum : Cond.code yX3_setDrum cX3_setDrum 4 (some .int) ∈ TG := TG_in 208 (by decide +kernel) rfl
theorem mt_X3_setDrum : Mt yX3_setDrum cX3_setDrum 4 (some .int) 2 := ⟨co_X3_setDrum, ini_X3, ⟨by decide +kernel, by decide +kernel, by decide +kernel⟩, by decide⟩
theorem cn_X3_43 : Cond.constantLong RX3 43 (5) ∈ TG := TG_in 209 (by decide +kernel) rfl
theorem st_X4_within : Cond.static yX4_within ∈ TG := TG_in 211 (by decide +kernel) rfl
theorem co_X4_within : Cond.code yX4_within cX4_within 6 (some .boolean) ∈ TG := TG_in 212 (by decide +kernel) rfl
theorem mt_X4_within : Mt yX4_within cX4_within 6 (some .boolean) 3 := ⟨co_X4_within, ini_X4, ⟨by decide +kernel, by decide +kernel, by decide +kernel⟩, by decide⟩
theorem cn_X3_49 : Cond.constantLong RX3 49 (9) ∈ TG := TG_in 213 (by decide +kernel) rfl
theorem ml_X4_47 : Cond.methodLink RX4 47 yX4_settled ∈ TG := TG_in 214 (by decide +kernel) rfl
theorem im_X4_settled : Cond.instanceMethod yX4_settled ∈ TG := TG_in 216 (by decide +kernel) rfl
theorem co_X4_settled : Cond.code yX4_settled cX4_settled 2 (some .int) ∈ TG := TG_in 217 (by decide +kernel) rfl
theorem mt_X4_settled : Mt yX4_settled cX4_settled 2 (some .int) 1 := ⟨co_X4_settled, ini_X4, ⟨by decide +kernel, by decide +kernel, by decide +kernel⟩, by decide⟩
theorem ml_X4_83 : Cond.methodLink RX4 83 yX4_counted ∈ TG := TG_in 218 (by decide +kernel) rfl
theorem im_X4_counted : Cond.instanceMethod yX4_counted ∈ TG := TG_in 220 (by decide +kernel) rfl
theorem co_X4_counted : Cond.code yX4_counted cX4_counted 2 (some .int) ∈ TG := TG_in 221 (by decide +kernel) rfl
theorem mt_X4_counted : Mt yX4_counted cX4_counted 2 (some .int) 1 := ⟨co_X4_counted, ini_X4, ⟨by decide +kernel, by decide +kernel, by decide +kernel⟩, by decide⟩
theorem ml_X4_159 : Cond.methodLink RX4 159 yX1_keep ∈ TG := TG_in 222 (by decide +kernel) rfl
theorem im_X1_keep : Cond.instanceMethod yX1_keep ∈ TG := TG_in 223 (by decide +kernel) rfl
theorem se_X1_keep : Cond.selects yX1_keep.cls yX1_keep yX1_keep ∈ TG := TG_in 224 (by decide +kernel) rfl
theorem co_X1_keep : Cond.code yX1_keep cX1_keep 2 none ∈ TG := TG_in 225 (by decide +kernel) rfl
theorem mt_X1_keep : Mt yX1_keep cX1_keep 2 none 1 := ⟨co_X1_keep, ini_X1, ⟨by decide +kernel, by decide +kernel, by decide +kernel⟩, by decide⟩
theorem ml_X1_25 : Cond.methodLink RX1 25 yX3_copyFrom ∈ TG := TG_in 226 (by decide +kernel) rfl
theorem ml_X1_29 : Cond.methodLink RX1 29 Lib.Math.min.name ∈ TG := TG_in 227 (by decide +kernel) rfl
theorem st_Lib_Math_min_name : Cond.static Lib.Math.min.name ∈ TG := TG_in 228 (by decide +kernel) rfl
theorem co_math_min : Cond.code Lib.Math.min.name Lib.Math.min.code 2 (some .int) ∈ TG := TG_in 229 (by decide +kernel) rfl
theorem ml_L_18 : Cond.methodLink RL 18 yX4_input ∈ TG := TG_in 230 (by decide +kernel) rfl
theorem im_X4_input : Cond.instanceMethod yX4_input ∈ TG := TG_in 231 (by decide +kernel) rfl
theorem se_X4_input : Cond.selects yX4_input.cls yX4_input yX4_input ∈ TG := TG_in 232 (by decide +kernel) rfl
theorem co_X4_input : Cond.code yX4_input cX4_input 2 (some .int) ∈ TG := TG_in 233 (by decide +kernel) rfl
theorem mt_X4_input : Mt yX4_input cX4_input 2 (some .int) 1 := ⟨co_X4_input, ini_X4, ⟨by decide +kernel, by decide +kernel, by decide +kernel⟩, by decide⟩
theorem ml_X4_51 : Cond.methodLink RX4 51 yX3_setDrums ∈ TG := TG_in 234 (by decide +kernel) rfl
theorem im_X3_setDrums : Cond.instanceMethod yX3_setDrums ∈ TG := TG_in 235 (by decide +kernel) rfl
theorem se_X3_setDrums : Cond.selects yX3_setDrums.cls yX3_setDrums yX3_setDrums ∈ TG := TG_in 236 (by decide +kernel) rfl
theorem co_X3_setDrums : Cond.code yX3_setDrums cX3_setDrums 3 (some .int) ∈ TG := TG_in 237 (by decide +kernel) rfl
theorem mt_X3_setDrums : Mt yX3_setDrums cX3_setDrums 3 (some .int) 1 := ⟨co_X3_setDrums, ini_X3, ⟨by decide +kernel, by decide +kernel, by decide +kernel⟩, by decide⟩
theorem cn_X3_51 : Cond.constantLong RX3 51 (999999) ∈ TG := TG_in 238 (by decide +kernel) rfl
theorem st_X4_number : Cond.static yX4_number ∈ TG := TG_in 240 (by decide +kernel) rfl
theorem co_X4_number : Cond.code yX4_number cX4_number 4 (some .long) ∈ TG := TG_in 241 (by decide +kernel) rfl
theorem mt_X4_number : Mt yX4_number cX4_number 4 (some .long) 1 := ⟨co_X4_number, ini_X4, ⟨by decide +kernel, by decide +kernel, by decide +kernel⟩, by decide⟩
theorem cn_X4_208 : Cond.constantLong RX4 208 (10) ∈ TG := TG_in 242 (by decide +kernel) rfl
theorem st_X4_putFigures : Cond.static yX4_putFigures ∈ TG := TG_in 244 (by decide +kernel) rfl
theorem co_X4_putFigures : Cond.code yX4_putFigures cX4_putFigures 8 (some .int) ∈ TG := TG_in 245 (by decide +kernel) rfl
theorem mt_X4_putFigures : Mt yX4_putFigures cX4_putFigures 8 (some .int) 2 := ⟨co_X4_putFigures, ini_X4, ⟨by decide +kernel, by decide +kernel, by decide +kernel⟩, by decide⟩
theorem ml_L_23 : Cond.methodLink RL 23 yX4_shifts ∈ TG := TG_in 246 (by decide +kernel) rfl
theorem im_X4_shifts : Cond.instanceMethod yX4_shifts ∈ TG := TG_in 247 (by decide +kernel) rfl
theorem se_X4_shifts : Cond.selects yX4_shifts.cls yX4_shifts yX4_shifts ∈ TG := TG_in 248 (by decide +kernel) rfl
theorem co_X4_shifts : Cond.code yX4_shifts cX4_shifts 2 (some .int) ∈ TG := TG_in 249 (by decide +kernel) rfl
theorem mt_X4_shifts : Mt yX4_shifts cX4_shifts 2 (some .int) 1 := ⟨co_X4_shifts, ini_X4, ⟨by decide +kernel, by decide +kernel, by decide +kernel⟩, by decide⟩
theorem ml_X4_54 : Cond.methodLink RX4 54 yX3_setShift ∈ TG := TG_in 250 (by decide +kernel) rfl
theorem im_X3_setShift : Cond.instanceMethod yX3_setShift ∈ TG := TG_in 251 (by decide +kernel) rfl
theorem se_X3_setShift : Cond.selects yX3_setShift.cls yX3_setShift yX3_setShift ∈ TG := TG_in 252 (by decide +kernel) rfl
theorem co_X3_setShift : Cond.code yX3_setShift cX3_setShift 3 (some .int) ∈ TG := TG_in 253 (by decide +kernel) rfl
theorem mt_X3_setShift : Mt yX3_setShift cX3_setShift 3 (some .int) 1 := ⟨co_X3_setShift, ini_X3, ⟨by decide +kernel, by decide +kernel, by decide +kernel⟩, by decide⟩
theorem cn_X3_61 : Cond.constantLong RX3 61 (6) ∈ TG := TG_in 254 (by decide +kernel) rfl
theorem ml_L_27 : Cond.methodLink RL 27 yX4_reaches ∈ TG := TG_in 255 (by decide +kernel) rfl
theorem im_X4_reaches : Cond.instanceMethod yX4_reaches ∈ TG := TG_in 256 (by decide +kernel) rfl
theorem se_X4_reaches : Cond.selects yX4_reaches.cls yX4_reaches yX4_reaches ∈ TG := TG_in 257 (by decide +kernel) rfl
theorem co_X4_reaches : Cond.code yX4_reaches cX4_reaches 2 (some .int) ∈ TG := TG_in 258 (by decide +kernel) rfl
theorem mt_X4_reaches : Mt yX4_reaches cX4_reaches 2 (some .int) 1 := ⟨co_X4_reaches, ini_X4, ⟨by decide +kernel, by decide +kernel, by decide +kernel⟩, by decide⟩
theorem ml_X4_57 : Cond.methodLink RX4 57 yX3_setReach ∈ TG := TG_in 259 (by decide +kernel) rfl
theorem im_X3_setReach : Cond.instanceMethod yX3_setReach ∈ TG := TG_in 260 (by decide +kernel) rfl
theorem se_X3_setReach : Cond.selects yX3_setReach.cls yX3_setReach yX3_setReach ∈ TG := TG_in 261 (by decide +kernel) rfl
theorem co_X3_setReach : Cond.code yX3_setReach cX3_setReach 3 (some .int) ∈ TG := TG_in 262 (by decide +kernel) rfl
theorem mt_X3_setReach : Mt yX3_setReach cX3_setReach 3 (some .int) 1 := ⟨co_X3_setReach, ini_X3, ⟨by decide +kernel, by decide +kernel, by decide +kernel⟩, by decide⟩
theorem cn_X3_63 : Cond.constantLong RX3 63 (12) ∈ TG := TG_in 263 (by decide +kernel) rfl
theorem ml_L_31 : Cond.methodLink RL 31 yX4_wears ∈ TG := TG_in 264 (by decide +kernel) rfl
theorem im_X4_wears : Cond.instanceMethod yX4_wears ∈ TG := TG_in 265 (by decide +kernel) rfl
theorem se_X4_wears : Cond.selects yX4_wears.cls yX4_wears yX4_wears ∈ TG := TG_in 266 (by decide +kernel) rfl
theorem co_X4_wears : Cond.code yX4_wears cX4_wears 3 (some .int) ∈ TG := TG_in 267 (by decide +kernel) rfl
theorem mt_X4_wears : Mt yX4_wears cX4_wears 3 (some .int) 2 := ⟨co_X4_wears, ini_X4, ⟨by decide +kernel, by decide +kernel, by decide +kernel⟩, by decide⟩
theorem ml_X4_60 : Cond.methodLink RX4 60 yX3_wearTooth ∈ TG := TG_in 268 (by decide +kernel) rfl
theorem im_X3_wearTooth : Cond.instanceMethod yX3_wearTooth ∈ TG := TG_in 269 (by decide +kernel) rfl
theorem se_X3_wearTooth : Cond.selects yX3_wearTooth.cls yX3_wearTooth yX3_wearTooth ∈ TG := TG_in 270 (by decide +kernel) rfl
theorem co_X3_wearTooth : Cond.code yX3_wearTooth cX3_wearTooth 3 (some .int) ∈ TG := TG_in 271 (by decide +kernel) rfl
theorem mt_X3_wearTooth : Mt yX3_wearTooth cX3_wearTooth 3 (some .int) 2 := ⟨co_X3_wearTooth, ini_X3, ⟨by decide +kernel, by decide +kernel, by decide +kernel⟩, by decide⟩
theorem ml_X3_65 : Cond.methodLink RX3 65 yJ6_bitCount_0f7a4 ∈ TG := TG_in 272 (by decide +kernel) rfl
theorem st_J6_bitCount_0f7a4 : Cond.static yJ6_bitCount_0f7a4 ∈ TG := TG_in 273 (by decide +kernel) rfl
theorem co_J6_bitCount_0f7a4 : Cond.code yJ6_bitCount_0f7a4 cJ6_bitCount_0f7a4 1 (some .int) ∈ TG := TG_in 274 (by decide +kernel) rfl
theorem mt_J6_bitCount_0f7a4 : Mt yJ6_bitCount_0f7a4 cJ6_bitCount_0f7a4 1 (some .int) 1 := ⟨co_J6_bitCount_0f7a4, ini_J6, ⟨by decide +kernel, by decide +kernel, by decide +kernel⟩, by decide⟩
theorem cn_J6_265 : Cond.constant RJ6 265 (1431655765) ∈ TG := TG_in 275 (by decide +kernel) rfl
theorem cn_J6_266 : Cond.constant RJ6 266 (858993459) ∈ TG := TG_in 276 (by decide +kernel) rfl
theorem cn_J6_267 : Cond.constant RJ6 267 (252645135) ∈ TG := TG_in 277 (by decide +kernel) rfl
theorem ml_L_35 : Cond.methodLink RL 35 yX4_clears ∈ TG := TG_in 278 (by decide +kernel) rfl
theorem im_X4_clears : Cond.instanceMethod yX4_clears ∈ TG := TG_in 279 (by decide +kernel) rfl
theorem se_X4_clears : Cond.selects yX4_clears.cls yX4_clears yX4_clears ∈ TG := TG_in 280 (by decide +kernel) rfl
theorem co_X4_clears : Cond.code yX4_clears cX4_clears 1 (some .int) ∈ TG := TG_in 281 (by decide +kernel) rfl
theorem mt_X4_clears : Mt yX4_clears cX4_clears 1 (some .int) 0 := ⟨co_X4_clears, ini_X4, ⟨by decide +kernel, by decide +kernel, by decide +kernel⟩, by decide⟩
theorem ml_X4_63 : Cond.methodLink RX4 63 yX3_clearAll ∈ TG := TG_in 282 (by decide +kernel) rfl
theorem im_X3_clearAll : Cond.instanceMethod yX3_clearAll ∈ TG := TG_in 283 (by decide +kernel) rfl
theorem se_X3_clearAll : Cond.selects yX3_clearAll.cls yX3_clearAll yX3_clearAll ∈ TG := TG_in 284 (by decide +kernel) rfl
theorem co_X3_clearAll : Cond.code yX3_clearAll cX3_clearAll 1 (some .int) ∈ TG := TG_in 285 (by decide +kernel) rfl
theorem mt_X3_clearAll : Mt yX3_clearAll cX3_clearAll 1 (some .int) 0 := ⟨co_X3_clearAll, ini_X3, ⟨by decide +kernel, by decide +kernel, by decide +kernel⟩, by decide⟩
theorem ml_X3_71 : Cond.methodLink RX3 71 yJ7_fill_53178 ∈ TG := TG_in 286 (by decide +kernel) rfl
theorem st_J7_fill_53178 : Cond.static yJ7_fill_53178 ∈ TG := TG_in 287 (by decide +kernel) rfl
theorem co_J7_fill_53178 : Cond.code yJ7_fill_53178 cJ7_fill_53178 4 none ∈ TG := TG_in 288 (by decide +kernel) rfl
theorem mt_J7_fill_53178 : Mt yJ7_fill_53178 cJ7_fill_53178 4 none 2 := ⟨co_J7_fill_53178, ini_J7, ⟨by decide +kernel, by decide +kernel, by decide +kernel⟩, by decide⟩
theorem ml_L_42 : Cond.methodLink RL 42 yX4_lays ∈ TG := TG_in 289 (by decide +kernel) rfl
theorem im_X4_lays : Cond.instanceMethod yX4_lays ∈ TG := TG_in 290 (by decide +kernel) rfl
theorem se_X4_lays : Cond.selects yX4_lays.cls yX4_lays yX4_lays ∈ TG := TG_in 291 (by decide +kernel) rfl
theorem co_X4_lays : Cond.code yX4_lays cX4_lays 3 (some .int) ∈ TG := TG_in 292 (by decide +kernel) rfl
theorem mt_X4_lays : Mt yX4_lays cX4_lays 3 (some .int) 1 := ⟨co_X4_lays, ini_X4, ⟨by decide +kernel, by decide +kernel, by decide +kernel⟩, by decide⟩
theorem ml_X4_67 : Cond.methodLink RX4 67 yX3_layWheels ∈ TG := TG_in 293 (by decide +kernel) rfl
theorem im_X3_layWheels : Cond.instanceMethod yX3_layWheels ∈ TG := TG_in 294 (by decide +kernel) rfl
theorem se_X3_layWheels : Cond.selects yX3_layWheels.cls yX3_layWheels yX3_layWheels ∈ TG := TG_in 295 (by decide +kernel) rfl
theorem co_X3_layWheels : Cond.code yX3_layWheels cX3_layWheels 3 (some .int) ∈ TG := TG_in 296 (by decide +kernel) rfl
theorem mt_X3_layWheels : Mt yX3_layWheels cX3_layWheels 3 (some .int) 1 := ⟨co_X3_layWheels, ini_X3, ⟨by decide +kernel, by decide +kernel, by decide +kernel⟩, by decide⟩
theorem cn_X3_77 : Cond.constantLong RX3 77 (999999999999) ∈ TG := TG_in 297 (by decide +kernel) rfl
theorem ml_L_47 : Cond.methodLink RL 47 yX4_ups ∈ TG := TG_in 298 (by decide +kernel) rfl
theorem im_X4_ups : Cond.instanceMethod yX4_ups ∈ TG := TG_in 299 (by decide +kernel) rfl
theorem se_X4_ups : Cond.selects yX4_ups.cls yX4_ups yX4_ups ∈ TG := TG_in 300 (by decide +kernel) rfl
theorem co_X4_ups : Cond.code yX4_ups cX4_ups 2 (some .int) ∈ TG := TG_in 301 (by decide +kernel) rfl
theorem mt_X4_ups : Mt yX4_ups cX4_ups 2 (some .int) 1 := ⟨co_X4_ups, ini_X4, ⟨by decide +kernel, by decide +kernel, by decide +kernel⟩, by decide⟩
theorem ml_X4_71 : Cond.methodLink RX4 71 yX3_turnOften ∈ TG := TG_in 302 (by decide +kernel) rfl
theorem im_X3_turnOften : Cond.instanceMethod yX3_turnOften ∈ TG := TG_in 303 (by decide +kernel) rfl
theorem se_X3_turnOften : Cond.selects yX3_turnOften.cls yX3_turnOften yX3_turnOften ∈ TG := TG_in 304 (by decide +kernel) rfl
theorem co_X3_turnOften : Cond.code yX3_turnOften cX3_turnOften 5 (some .int) ∈ TG := TG_in 305 (by decide +kernel) rfl
theorem mt_X3_turnOften : Mt yX3_turnOften cX3_turnOften 5 (some .int) 2 := ⟨co_X3_turnOften, ini_X3, ⟨by decide +kernel, by decide +kernel, by decide +kernel⟩, by decide⟩
theorem cn_X3_79 : Cond.constantLong RX3 79 (99) ∈ TG := TG_in 306 (by decide +kernel) rfl
theorem ml_X3_81 : Cond.methodLink RX3 81 yX3_turnOnce ∈ TG := TG_in 307 (by decide +kernel) rfl
theorem im_X3_turnOnce : Cond.instanceMethod yX3_turnOnce ∈ TG := TG_in 309 (by decide +kernel) rfl
theorem co_X3_turnOnce : Cond.code yX3_turnOnce cX3_turnOnce 8 (some .boolean) ∈ TG := TG_in 310 (by decide +kernel) rfl
theorem mt_X3_turnOnce : Mt yX3_turnOnce cX3_turnOnce 8 (some .boolean) 2 := ⟨co_X3_turnOnce, ini_X3, ⟨by decide +kernel, by decide +kernel, by decide +kernel⟩, by decide⟩
theorem ml_X3_114 : Cond.methodLink RX3 114 yX3_given ∈ TG := TG_in 311 (by decide +kernel) rfl
theorem im_X3_given : Cond.instanceMethod yX3_given ∈ TG := TG_in 313 (by decide +kernel) rfl
theorem co_X3_given : Cond.code yX3_given cX3_given 3 (some .int) ∈ TG := TG_in 314 (by decide +kernel) rfl
theorem mt_X3_given : Mt yX3_given cX3_given 3 (some .int) 1 := ⟨co_X3_given, ini_X3, ⟨by decide +kernel, by decide +kernel, by decide +kernel⟩, by decide⟩
theorem ml_L_51 : Cond.methodLink RL 51 yX4_downs ∈ TG := TG_in 315 (by decide +kernel) rfl
theorem im_X4_downs : Cond.instanceMethod yX4_downs ∈ TG := TG_in 316 (by decide +kernel) rfl
theorem se_X4_downs : Cond.selects yX4_downs.cls yX4_downs yX4_downs ∈ TG := TG_in 317 (by decide +kernel) rfl
theorem co_X4_downs : Cond.code yX4_downs cX4_downs 2 (some .int) ∈ TG := TG_in 318 (by decide +kernel) rfl
theorem mt_X4_downs : Mt yX4_downs cX4_downs 2 (some .int) 1 := ⟨co_X4_downs, ini_X4, ⟨by decide +kernel, by decide +kernel, by decide +kernel⟩, by decide⟩
theorem ml_L_55 : Cond.methodLink RL 55 yX4_times ∈ TG := TG_in 319 (by decide +kernel) rfl
theorem im_X4_times : Cond.instanceMethod yX4_times ∈ TG := TG_in 320 (by decide +kernel) rfl
theorem se_X4_times : Cond.selects yX4_times.cls yX4_times yX4_times ∈ TG := TG_in 321 (by decide +kernel) rfl
theorem co_X4_times : Cond.code yX4_times cX4_times 3 (some .int) ∈ TG := TG_in 322 (by decide +kernel) rfl
theorem mt_X4_times : Mt yX4_times cX4_times 3 (some .int) 2 := ⟨co_X4_times, ini_X4, ⟨by decide +kernel, by decide +kernel, by decide +kernel⟩, by decide⟩
theorem ml_X4_74 : Cond.methodLink RX4 74 yX3_multiply ∈ TG := TG_in 323 (by decide +kernel) rfl
theorem im_X3_multiply : Cond.instanceMethod yX3_multiply ∈ TG := TG_in 324 (by decide +kernel) rfl
theorem se_X3_multiply : Cond.selects yX3_multiply.cls yX3_multiply yX3_multiply ∈ TG := TG_in 325 (by decide +kernel) rfl
theorem co_X3_multiply : Cond.code yX3_multiply cX3_multiply 9 (some .int) ∈ TG := TG_in 326 (by decide +kernel) rfl
theorem mt_X3_multiply : Mt yX3_multiply cX3_multiply 9 (some .int) 2 := ⟨co_X3_multiply, ini_X3, ⟨by decide +kernel, by decide +kernel, by decide +kernel⟩, by decide⟩
theorem st_X4_canMultiply : Cond.static yX4_canMultiply ∈ TG := TG_in 328 (by decide +kernel) rfl
theorem co_X4_canMultiply : Cond.code yX4_canMultiply cX4_canMultiply 2 (some .boolean) ∈ TG := TG_in 329 (by decide +kernel) rfl
theorem mt_X4_canMultiply : Mt yX4_canMultiply cX4_canMultiply 2 (some .boolean) 2 := ⟨co_X4_canMultiply, ini_X4, ⟨by decide +kernel, by decide +kernel, by decide +kernel⟩, by decide⟩
theorem cn_X4_210 : Cond.constantLong RX4 210 (999999) ∈ TG := TG_in 330 (by decide +kernel) rfl
theorem ml_X4_91 : Cond.methodLink RX4 91 yX4_within ∈ TG := TG_in 331 (by decide +kernel) rfl
theorem ml_X3_88 : Cond.methodLink RX3 88 yX3_clearAll ∈ TG := TG_in 332 (by decide +kernel) rfl
theorem st_X4_figuresToMultiply : Cond.static yX4_figuresToMultiply ∈ TG := TG_in 334 (by decide +kernel) rfl
theorem co_X4_figuresToMultiply : Cond.code yX4_figuresToMultiply cX4_figuresToMultiply 1 (some .int) ∈ TG := TG_in 335 (by decide +kernel) rfl
theorem mt_X4_figuresToMultiply : Mt yX4_figuresToMultiply cX4_figuresToMultiply 1 (some .int) 1 := ⟨co_X4_figuresToMultiply, ini_X4, ⟨by decide +kernel, by decide +kernel, by decide +kernel⟩, by decide⟩
theorem st_X4_turnsForFigure : Cond.static yX4_turnsForFigure ∈ TG := TG_in 337 (by decide +kernel) rfl
theorem co_X4_turnsForFigure : Cond.code yX4_turnsForFigure cX4_turnsForFigure 3 (some .int) ∈ TG := TG_in 338 (by decide +kernel) rfl
theorem mt_X4_turnsForFigure : Mt yX4_turnsForFigure cX4_turnsForFigure 3 (some .int) 2 := ⟨co_X4_turnsForFigure, ini_X4, ⟨by decide +kernel, by decide +kernel, by decide +kernel⟩, by decide⟩
theorem st_X4_leftBehindFigure : Cond.static yX4_leftBehindFigure ∈ TG := TG_in 340 (by decide +kernel) rfl
theorem co_X4_leftBehindFigure : Cond.code yX4_leftBehindFigure cX4_leftBehindFigure 2 (some .int) ∈ TG := TG_in 341 (by decide +kernel) rfl
theorem mt_X4_leftBehindFigure : Mt yX4_leftBehindFigure cX4_leftBehindFigure 2 (some .int) 2 := ⟨co_X4_leftBehindFigure, ini_X4, ⟨by decide +kernel, by decide +kernel, by decide +kernel⟩, by decide⟩
theorem ml_X3_102 : Cond.methodLink RX3 102 Lib.Math.abs.name ∈ TG := TG_in 342 (by decide +kernel) rfl
theorem st_Lib_Math_abs_name : Cond.static Lib.Math.abs.name ∈ TG := TG_in 343 (by decide +kernel) rfl
theorem co_math_abs : Cond.code Lib.Math.abs.name Lib.Math.abs.code 1 (some .int) ∈ TG := TG_in 344 (by decide +kernel) rfl
theorem ml_L_59 : Cond.methodLink RL 59 yX4_divides ∈ TG := TG_in 345 (by decide +kernel) rfl
theorem im_X4_divides : Cond.instanceMethod yX4_divides ∈ TG := TG_in 346 (by decide +kernel) rfl
theorem se_X4_divides : Cond.selects yX4_divides.cls yX4_divides yX4_divides ∈ TG := TG_in 347 (by decide +kernel) rfl
theorem co_X4_divides : Cond.code yX4_divides cX4_divides 1 (some .int) ∈ TG := TG_in 348 (by decide +kernel) rfl
theorem mt_X4_divides : Mt yX4_divides cX4_divides 1 (some .int) 0 := ⟨co_X4_divides, ini_X4, ⟨by decide +kernel, by decide +kernel, by decide +kernel⟩, by decide⟩
theorem ml_X4_77 : Cond.methodLink RX4 77 yX3_divide ∈ TG := TG_in 349 (by decide +kernel) rfl
theorem im_X3_divide : Cond.instanceMethod yX3_divide ∈ TG := TG_in 350 (by decide +kernel) rfl
theorem se_X3_divide : Cond.selects yX3_divide.cls yX3_divide yX3_divide ∈ TG := TG_in 351 (by decide +kernel) rfl
theorem co_X3_divide : Cond.code yX3_divide cX3_divide 3 (some .int) ∈ TG := TG_in 352 (by decide +kernel) rfl
theorem mt_X3_divide : Mt yX3_divide cX3_divide 3 (some .int) 0 := ⟨co_X3_divide, ini_X3, ⟨by decide +kernel, by decide +kernel, by decide +kernel⟩, by decide⟩
theorem ml_X3_107 : Cond.methodLink RX3 107 yX3_numberGiven ∈ TG := TG_in 353 (by decide +kernel) rfl
theorem im_X3_numberGiven : Cond.instanceMethod yX3_numberGiven ∈ TG := TG_in 354 (by decide +kernel) rfl
theorem se_X3_numberGiven : Cond.selects yX3_numberGiven.cls yX3_numberGiven yX3_numberGiven ∈ TG := TG_in 355 (by decide +kernel) rfl
theorem co_X3_numberGiven : Cond.code yX3_numberGiven cX3_numberGiven 3 (some .int) ∈ TG := TG_in 356 (by decide +kernel) rfl
theorem mt_X3_numberGiven : Mt yX3_numberGiven cX3_numberGiven 3 (some .int) 0 := ⟨co_X3_numberGiven, ini_X3, ⟨by decide +kernel, by decide +kernel, by decide +kernel⟩, by decide⟩
theorem ml_X3_110 : Cond.methodLink RX3 110 yX3_turnDownTillBell ∈ TG := TG_in 357 (by decide +kernel) rfl
theorem im_X3_turnDownTillBell : Cond.instanceMethod yX3_turnDownTillBell ∈ TG := TG_in 359 (by decide +kernel) rfl
theorem co_X3_turnDownTillBell : Cond.code yX3_turnDownTillBell cX3_turnDownTillBell 2 (some .boolean) ∈ TG := TG_in 360 (by decide +kernel) rfl
theorem mt_X3_turnDownTillBell : Mt yX3_turnDownTillBell cX3_turnDownTillBell 2 (some .boolean) 0 := ⟨co_X3_turnDownTillBell, ini_X3, ⟨by decide +kernel, by decide +kernel, by decide +kernel⟩, by decide⟩
theorem ml_L_63 : Cond.methodLink RL 63 yX4_turns ∈ TG := TG_in 361 (by decide +kernel) rfl
theorem im_X4_turns : Cond.instanceMethod yX4_turns ∈ TG := TG_in 362 (by decide +kernel) rfl
theorem se_X4_turns : Cond.selects yX4_turns.cls yX4_turns yX4_turns ∈ TG := TG_in 363 (by decide +kernel) rfl
theorem co_X4_turns : Cond.code yX4_turns cX4_turns 3 (some .int) ∈ TG := TG_in 364 (by decide +kernel) rfl
theorem mt_X4_turns : Mt yX4_turns cX4_turns 3 (some .int) 2 := ⟨co_X4_turns, ini_X4, ⟨by decide +kernel, by decide +kernel, by decide +kernel⟩, by decide⟩
theorem ml_X4_80 : Cond.methodLink RX4 80 yX4_turnsToMultiply ∈ TG := TG_in 365 (by decide +kernel) rfl
theorem st_X4_turnsToMultiply : Cond.static yX4_turnsToMultiply ∈ TG := TG_in 366 (by decide +kernel) rfl
theorem co_X4_turnsToMultiply : Cond.code yX4_turnsToMultiply cX4_turnsToMultiply 6 (some .int) ∈ TG := TG_in 367 (by decide +kernel) rfl
theorem mt_X4_turnsToMultiply : Mt yX4_turnsToMultiply cX4_turnsToMultiply 6 (some .int) 2 := ⟨co_X4_turnsToMultiply, ini_X4, ⟨by decide +kernel, by decide +kernel, by decide +kernel⟩, by decide⟩
theorem ml_X4_212 : Cond.methodLink RX4 212 yX4_canMultiply ∈ TG := TG_in 368 (by decide +kernel) rfl
theorem ml_X4_216 : Cond.methodLink RX4 216 yX4_figuresToMultiply ∈ TG := TG_in 369 (by decide +kernel) rfl
theorem ml_X4_219 : Cond.methodLink RX4 219 yX4_turnsForFigure ∈ TG := TG_in 370 (by decide +kernel) rfl
theorem ml_X4_222 : Cond.methodLink RX4 222 yX4_leftBehindFigure ∈ TG := TG_in 371 (by decide +kernel) rfl
theorem ml_X4_225 : Cond.methodLink RX4 225 Lib.Math.abs.name ∈ TG := TG_in 372 (by decide +kernel) rfl
theorem ml_L_67 : Cond.methodLink RL 67 yX4_drum ∈ TG := TG_in 373 (by decide +kernel) rfl
theorem im_X4_drum : Cond.instanceMethod yX4_drum ∈ TG := TG_in 374 (by decide +kernel) rfl
theorem se_X4_drum : Cond.selects yX4_drum.cls yX4_drum yX4_drum ∈ TG := TG_in 375 (by decide +kernel) rfl
theorem co_X4_drum : Cond.code yX4_drum cX4_drum 3 (some .int) ∈ TG := TG_in 376 (by decide +kernel) rfl
theorem mt_X4_drum : Mt yX4_drum cX4_drum 3 (some .int) 2 := ⟨co_X4_drum, ini_X4, ⟨by decide +kernel, by decide +kernel, by decide +kernel⟩, by decide⟩
theorem ml_X4_86 : Cond.methodLink RX4 86 yX3_tellDrum ∈ TG := TG_in 377 (by decide +kernel) rfl
theorem im_X3_tellDrum : Cond.instanceMethod yX3_tellDrum ∈ TG := TG_in 378 (by decide +kernel) rfl
theorem se_X3_tellDrum : Cond.selects yX3_tellDrum.cls yX3_tellDrum yX3_tellDrum ∈ TG := TG_in 379 (by decide +kernel) rfl
theorem co_X3_tellDrum : Cond.code yX3_tellDrum cX3_tellDrum 3 (some .int) ∈ TG := TG_in 380 (by decide +kernel) rfl
theorem mt_X3_tellDrum : Mt yX3_tellDrum cX3_tellDrum 3 (some .int) 2 := ⟨co_X3_tellDrum, ini_X3, ⟨by decide +kernel, by decide +kernel, by decide +kernel⟩, by decide⟩
theorem ml_L_71 : Cond.methodLink RL 71 yX4_wheel ∈ TG := TG_in 381 (by decide +kernel) rfl
theorem im_X4_wheel : Cond.instanceMethod yX4_wheel ∈ TG := TG_in 382 (by decide +kernel) rfl
theorem se_X4_wheel : Cond.selects yX4_wheel.cls yX4_wheel yX4_wheel ∈ TG := TG_in 383 (by decide +kernel) rfl
theorem co_X4_wheel : Cond.code yX4_wheel cX4_wheel 2 (some .int) ∈ TG := TG_in 384 (by decide +kernel) rfl
theorem mt_X4_wheel : Mt yX4_wheel cX4_wheel 2 (some .int) 1 := ⟨co_X4_wheel, ini_X4, ⟨by decide +kernel, by decide +kernel, by decide +kernel⟩, by decide⟩
theorem cn_X4_89 : Cond.constantLong RX4 89 (11) ∈ TG := TG_in 385 (by decide +kernel) rfl
theorem ml_L_75 : Cond.methodLink RL 75 yX4_value ∈ TG := TG_in 386 (by decide +kernel) rfl
theorem im_X4_value : Cond.instanceMethod yX4_value ∈ TG := TG_in 387 (by decide +kernel) rfl
theorem se_X4_value : Cond.selects yX4_value.cls yX4_value yX4_value ∈ TG := TG_in 388 (by decide +kernel) rfl
theorem co_X4_value : Cond.code yX4_value cX4_value 1 (some .long) ∈ TG := TG_in 389 (by decide +kernel) rfl
theorem mt_X4_value : Mt yX4_value cX4_value 1 (some .long) 0 := ⟨co_X4_value, ini_X4, ⟨by decide +kernel, by decide +kernel, by decide +kernel⟩, by decide⟩
theorem ml_X4_99 : Cond.methodLink RX4 99 yX4_number ∈ TG := TG_in 390 (by decide +kernel) rfl
theorem ml_L_80 : Cond.methodLink RL 80 yX4_counter ∈ TG := TG_in 391 (by decide +kernel) rfl
theorem im_X4_counter : Cond.instanceMethod yX4_counter ∈ TG := TG_in 392 (by decide +kernel) rfl
theorem se_X4_counter : Cond.selects yX4_counter.cls yX4_counter yX4_counter ∈ TG := TG_in 393 (by decide +kernel) rfl
theorem co_X4_counter : Cond.code yX4_counter cX4_counter 2 (some .int) ∈ TG := TG_in 394 (by decide +kernel) rfl
theorem mt_X4_counter : Mt yX4_counter cX4_counter 2 (some .int) 1 := ⟨co_X4_counter, ini_X4, ⟨by decide +kernel, by decide +kernel, by decide +kernel⟩, by decide⟩
theorem cn_X4_103 : Cond.constantLong RX4 103 (6) ∈ TG := TG_in 395 (by decide +kernel) rfl
theorem ml_L_84 : Cond.methodLink RL 84 yX4_count ∈ TG := TG_in 396 (by decide +kernel) rfl
theorem im_X4_count : Cond.instanceMethod yX4_count ∈ TG := TG_in 397 (by decide +kernel) rfl
theorem se_X4_count : Cond.selects yX4_count.cls yX4_count yX4_count ∈ TG := TG_in 398 (by decide +kernel) rfl
theorem co_X4_count : Cond.code yX4_count cX4_count 2 (some .int) ∈ TG := TG_in 399 (by decide +kernel) rfl
theorem mt_X4_count : Mt yX4_count cX4_count 2 (some .int) 1 := ⟨co_X4_count, ini_X4, ⟨by decide +kernel, by decide +kernel, by decide +kernel⟩, by decide⟩
theorem ml_X4_108 : Cond.methodLink RX4 108 yX3_tellCount ∈ TG := TG_in 400 (by decide +kernel) rfl
theorem im_X3_tellCount : Cond.instanceMethod yX3_tellCount ∈ TG := TG_in 401 (by decide +kernel) rfl
theorem se_X3_tellCount : Cond.selects yX3_tellCount.cls yX3_tellCount yX3_tellCount ∈ TG := TG_in 402 (by decide +kernel) rfl
theorem co_X3_tellCount : Cond.code yX3_tellCount cX3_tellCount 2 (some .int) ∈ TG := TG_in 403 (by decide +kernel) rfl
theorem mt_X3_tellCount : Mt yX3_tellCount cX3_tellCount 2 (some .int) 1 := ⟨co_X3_tellCount, ini_X3, ⟨by decide +kernel, by decide +kernel, by decide +kernel⟩, by decide⟩
theorem ml_X3_117 : Cond.methodLink RX3 117 yX3_wornTeeth ∈ TG := TG_in 404 (by decide +kernel) rfl
theorem im_X3_wornTeeth : Cond.instanceMethod yX3_wornTeeth ∈ TG := TG_in 406 (by decide +kernel) rfl
theorem co_X3_wornTeeth : Cond.code yX3_wornTeeth cX3_wornTeeth 3 (some .int) ∈ TG := TG_in 407 (by decide +kernel) rfl
theorem mt_X3_wornTeeth : Mt yX3_wornTeeth cX3_wornTeeth 3 (some .int) 0 := ⟨co_X3_wornTeeth, ini_X3, ⟨by decide +kernel, by decide +kernel, by decide +kernel⟩, by decide⟩
theorem ml_L_88 : Cond.methodLink RL 88 yX4_trial ∈ TG := TG_in 408 (by decide +kernel) rfl
theorem im_X4_trial : Cond.instanceMethod yX4_trial ∈ TG := TG_in 409 (by decide +kernel) rfl
theorem se_X4_trial : Cond.selects yX4_trial.cls yX4_trial yX4_trial ∈ TG := TG_in 410 (by decide +kernel) rfl
theorem co_X4_trial : Cond.code yX4_trial cX4_trial 2 (some .long) ∈ TG := TG_in 411 (by decide +kernel) rfl
theorem mt_X4_trial : Mt yX4_trial cX4_trial 2 (some .long) 1 := ⟨co_X4_trial, ini_X4, ⟨by decide +kernel, by decide +kernel, by decide +kernel⟩, by decide⟩
theorem cn_X4_111 : Cond.constantLong RX4 111 (99) ∈ TG := TG_in 412 (by decide +kernel) rfl
theorem ml_X4_113 : Cond.methodLink RX4 113 yX3_numberGiven ∈ TG := TG_in 413 (by decide +kernel) rfl
theorem ml_X4_116 : Cond.methodLink RX4 116 yX3_tried ∈ TG := TG_in 414 (by decide +kernel) rfl
theorem im_X3_tried : Cond.instanceMethod yX3_tried ∈ TG := TG_in 415 (by decide +kernel) rfl
theorem se_X3_tried : Cond.selects yX3_tried.cls yX3_tried yX3_tried ∈ TG := TG_in 416 (by decide +kernel) rfl
theorem co_X3_tried : Cond.code yX3_tried cX3_tried 5 (some .long) ∈ TG := TG_in 417 (by decide +kernel) rfl
theorem mt_X3_tried : Mt yX3_tried cX3_tried 5 (some .long) 2 := ⟨co_X3_tried, ini_X3, ⟨by decide +kernel, by decide +kernel, by decide +kernel⟩, by decide⟩
theorem cn_X3_120 : Cond.constantLong RX3 120 (1000000) ∈ TG := TG_in 418 (by decide +kernel) rfl
theorem cn_X3_122 : Cond.constantLong RX3 122 (10000000) ∈ TG := TG_in 419 (by decide +kernel) rfl
theorem ml_L_93 : Cond.methodLink RL 93 yX4_explains ∈ TG := TG_in 420 (by decide +kernel) rfl
theorem im_X4_explains : Cond.instanceMethod yX4_explains ∈ TG := TG_in 421 (by decide +kernel) rfl
theorem se_X4_explains : Cond.selects yX4_explains.cls yX4_explains yX4_explains ∈ TG := TG_in 422 (by decide +kernel) rfl
theorem co_X4_explains : Cond.code yX4_explains cX4_explains 5 (some .int) ∈ TG := TG_in 423 (by decide +kernel) rfl
theorem mt_X4_explains : Mt yX4_explains cX4_explains 5 (some .int) 3 := ⟨co_X4_explains, ini_X4, ⟨by decide +kernel, by decide +kernel, by decide +kernel⟩, by decide⟩
theorem cn_X4_120 : Cond.constantLong RX4 120 (999999999999) ∈ TG := TG_in 424 (by decide +kernel) rfl
theorem cn_X4_122 : Cond.constantLong RX4 122 (2) ∈ TG := TG_in 425 (by decide +kernel) rfl
theorem ml_X4_124 : Cond.methodLink RX4 124 yX3_explain ∈ TG := TG_in 426 (by decide +kernel) rfl
theorem im_X3_explain : Cond.instanceMethod yX3_explain ∈ TG := TG_in 427 (by decide +kernel) rfl
theorem se_X3_explain : Cond.selects yX3_explain.cls yX3_explain yX3_explain ∈ TG := TG_in 428 (by decide +kernel) rfl
theorem co_X3_explain : Cond.code yX3_explain cX3_explain 13 (some .int) ∈ TG := TG_in 429 (by decide +kernel) rfl
theorem mt_X3_explain : Mt yX3_explain cX3_explain 13 (some .int) 3 := ⟨co_X3_explain, ini_X3, ⟨by decide +kernel, by decide +kernel, by decide +kernel⟩, by decide⟩
theorem ml_X3_124 : Cond.methodLink RX3 124 yX3_tried ∈ TG := TG_in 430 (by decide +kernel) rfl
theorem ml_L_98 : Cond.methodLink RL 98 yX4_type ∈ TG := TG_in 431 (by decide +kernel) rfl
theorem im_X4_type : Cond.instanceMethod yX4_type ∈ TG := TG_in 432 (by decide +kernel) rfl
theorem se_X4_type : Cond.selects yX4_type.cls yX4_type yX4_type ∈ TG := TG_in 433 (by decide +kernel) rfl
theorem co_X4_type : Cond.code yX4_type cX4_type 2 (some .int) ∈ TG := TG_in 434 (by decide +kernel) rfl
theorem mt_X4_type : Mt yX4_type cX4_type 2 (some .int) 1 := ⟨co_X4_type, ini_X4, ⟨by decide +kernel, by decide +kernel, by decide +kernel⟩, by decide⟩
theorem ml_X4_128 : Cond.methodLink RX4 128 yX2_add ∈ TG := TG_in 435 (by decide +kernel) rfl
theorem im_X2_add : Cond.instanceMethod yX2_add ∈ TG := TG_in 436 (by decide +kernel) rfl
theorem se_X2_add : Cond.selects yX2_add.cls yX2_add yX2_add ∈ TG := TG_in 437 (by decide +kernel) rfl
theorem co_X2_add : Cond.code yX2_add cX2_add 2 (some .int) ∈ TG := TG_in 438 (by decide +kernel) rfl
theorem mt_X2_add : Mt yX2_add cX2_add 2 (some .int) 1 := ⟨co_X2_add, ini_X2, ⟨by decide +kernel, by decide +kernel, by decide +kernel⟩, by decide⟩
theorem cn_X2_19 : Cond.constantLong RX2 19 (127) ∈ TG := TG_in 439 (by decide +kernel) rfl
theorem ml_L_102 : Cond.methodLink RL 102 yX4_wipes ∈ TG := TG_in 441 (by decide +kernel) rfl
theorem im_X4_wipes : Cond.instanceMethod yX4_wipes ∈ TG := TG_in 442 (by decide +kernel) rfl
theorem se_X4_wipes : Cond.selects yX4_wipes.cls yX4_wipes yX4_wipes ∈ TG := TG_in 443 (by decide +kernel) rfl
theorem co_X4_wipes : Cond.code yX4_wipes cX4_wipes 1 (some .int) ∈ TG := TG_in 444 (by decide +kernel) rfl
theorem mt_X4_wipes : Mt yX4_wipes cX4_wipes 1 (some .int) 0 := ⟨co_X4_wipes, ini_X4, ⟨by decide +kernel, by decide +kernel, by decide +kernel⟩, by decide⟩
theorem ml_X4_131 : Cond.methodLink RX4 131 yX2_empty ∈ TG := TG_in 445 (by decide +kernel) rfl
theorem im_X2_empty : Cond.instanceMethod yX2_empty ∈ TG := TG_in 446 (by decide +kernel) rfl
theorem se_X2_empty : Cond.selects yX2_empty.cls yX2_empty yX2_empty ∈ TG := TG_in 447 (by decide +kernel) rfl
theorem co_X2_empty : Cond.code yX2_empty cX2_empty 2 (some .int) ∈ TG := TG_in 448 (by decide +kernel) rfl
theorem mt_X2_empty : Mt yX2_empty cX2_empty 2 (some .int) 0 := ⟨co_X2_empty, ini_X2, ⟨by decide +kernel, by decide +kernel, by decide +kernel⟩, by decide⟩
theorem ml_L_106 : Cond.methodLink RL 106 yX4_does ∈ TG := TG_in 449 (by decide +kernel) rfl
theorem im_X4_does : Cond.instanceMethod yX4_does ∈ TG := TG_in 450 (by decide +kernel) rfl
theorem se_X4_does : Cond.selects yX4_does.cls yX4_does yX4_does ∈ TG := TG_in 451 (by decide +kernel) rfl
theorem co_X4_does : Cond.code yX4_does cX4_does 3 (some .int) ∈ TG := TG_in 452 (by decide +kernel) rfl
theorem mt_X4_does : Mt yX4_does cX4_does 3 (some .int) 0 := ⟨co_X4_does, ini_X4, ⟨by decide +kernel, by decide +kernel, by decide +kernel⟩, by decide⟩
theorem ml_X4_134 : Cond.methodLink RX4 134 yX0_read ∈ TG := TG_in 453 (by decide +kernel) rfl
theorem im_X0_read : Cond.instanceMethod yX0_read ∈ TG := TG_in 454 (by decide +kernel) rfl
theorem se_X0_read : Cond.selects yX0_read.cls yX0_read yX0_read ∈ TG := TG_in 455 (by decide +kernel) rfl
theorem co_X0_read : Cond.code yX0_read cX0_read 3 (some .int) ∈ TG := TG_in 456 (by decide +kernel) rfl
theorem mt_X0_read : Mt yX0_read cX0_read 3 (some .int) 1 := ⟨co_X0_read, ini_X0, ⟨by decide +kernel, by decide +kernel, by decide +kernel⟩, by decide⟩
theorem ml_X0_28 : Cond.methodLink RX0 28 yX0_readOrder ∈ TG := TG_in 457 (by decide +kernel) rfl
theorem im_X0_readOrder : Cond.instanceMethod yX0_readOrder ∈ TG := TG_in 459 (by decide +kernel) rfl
theorem co_X0_readOrder : Cond.code yX0_readOrder cX0_readOrder 5 (some .boolean) ∈ TG := TG_in 460 (by decide +kernel) rfl
theorem mt_X0_readOrder : Mt yX0_readOrder cX0_readOrder 5 (some .boolean) 2 := ⟨co_X0_readOrder, ini_X0, ⟨by decide +kernel, by decide +kernel, by decide +kernel⟩, by decide⟩
theorem ml_X0_32 : Cond.methodLink RX0 32 yX0_skipBlanks ∈ TG := TG_in 461 (by decide +kernel) rfl
theorem im_X0_skipBlanks : Cond.instanceMethod yX0_skipBlanks ∈ TG := TG_in 463 (by decide +kernel) rfl
theorem co_X0_skipBlanks : Cond.code yX0_skipBlanks cX0_skipBlanks 2 none ∈ TG := TG_in 464 (by decide +kernel) rfl
theorem mt_X0_skipBlanks : Mt yX0_skipBlanks cX0_skipBlanks 2 none 1 := ⟨co_X0_skipBlanks, ini_X0, ⟨by decide +kernel, by decide +kernel, by decide +kernel⟩, by decide⟩
theorem ml_X0_41 : Cond.methodLink RX0 41 yX2_at ∈ TG := TG_in 465 (by decide +kernel) rfl
theorem im_X2_at : Cond.instanceMethod yX2_at ∈ TG := TG_in 466 (by decide +kernel) rfl
theorem se_X2_at : Cond.selects yX2_at.cls yX2_at yX2_at ∈ TG := TG_in 467 (by decide +kernel) rfl
theorem co_X2_at : Cond.code yX2_at cX2_at 2 (some .int) ∈ TG := TG_in 468 (by decide +kernel) rfl
theorem mt_X2_at : Mt yX2_at cX2_at 2 (some .int) 1 := ⟨co_X2_at, ini_X2, ⟨by decide +kernel, by decide +kernel, by decide +kernel⟩, by decide⟩
theorem ml_X0_45 : Cond.methodLink RX0 45 yX0_numbersOf ∈ TG := TG_in 469 (by decide +kernel) rfl
theorem st_X0_numbersOf : Cond.static yX0_numbersOf ∈ TG := TG_in 470 (by decide +kernel) rfl
theorem co_X0_numbersOf : Cond.code yX0_numbersOf cX0_numbersOf 1 (some .int) ∈ TG := TG_in 471 (by decide +kernel) rfl
theorem mt_X0_numbersOf : Mt yX0_numbersOf cX0_numbersOf 1 (some .int) 1 := ⟨co_X0_numbersOf, ini_X0, ⟨by decide +kernel, by decide +kernel, by decide +kernel⟩, by decide⟩
theorem ml_X0_48 : Cond.methodLink RX0 48 yX0_readNumber ∈ TG := TG_in 472 (by decide +kernel) rfl
theorem im_X0_readNumber : Cond.instanceMethod yX0_readNumber ∈ TG := TG_in 474 (by decide +kernel) rfl
theorem co_X0_readNumber : Cond.code yX0_readNumber cX0_readNumber 3 (some .boolean) ∈ TG := TG_in 475 (by decide +kernel) rfl
theorem mt_X0_readNumber : Mt yX0_readNumber cX0_readNumber 3 (some .boolean) 1 := ⟨co_X0_readNumber, ini_X0, ⟨by decide +kernel, by decide +kernel, by decide +kernel⟩, by decide⟩
theorem ml_X0_55 : Cond.methodLink RX0 55 yX0_isFigure ∈ TG := TG_in 476 (by decide +kernel) rfl
theorem st_X0_isFigure : Cond.static yX0_isFigure ∈ TG := TG_in 477 (by decide +kernel) rfl
theorem co_X0_isFigure : Cond.code yX0_isFigure cX0_isFigure 1 (some .boolean) ∈ TG := TG_in 478 (by decide +kernel) rfl
theorem mt_X0_isFigure : Mt yX0_isFigure cX0_isFigure 1 (some .boolean) 1 := ⟨co_X0_isFigure, ini_X0, ⟨by decide +kernel, by decide +kernel, by decide +kernel⟩, by decide⟩
theorem cn_X0_59 : Cond.constantLong RX0 59 (48) ∈ TG := TG_in 479 (by decide +kernel) rfl
theorem cn_X0_61 : Cond.constantLong RX0 61 (57) ∈ TG := TG_in 480 (by decide +kernel) rfl
theorem ml_X4_151 : Cond.methodLink RX4 151 yX4_perform ∈ TG := TG_in 482 (by decide +kernel) rfl
theorem im_X4_perform : Cond.instanceMethod yX4_perform ∈ TG := TG_in 484 (by decide +kernel) rfl
theorem co_X4_perform : Cond.code yX4_perform cX4_perform 4 (some .int) ∈ TG := TG_in 485 (by decide +kernel) rfl
theorem mt_X4_perform : Mt yX4_perform cX4_perform 4 (some .int) 3 := ⟨co_X4_perform, ini_X4, ⟨by decide +kernel, by decide +kernel, by decide +kernel⟩, by decide⟩
theorem ml_L_110 : Cond.methodLink RL 110 yX4_back ∈ TG := TG_in 486 (by decide +kernel) rfl
theorem im_X4_back : Cond.instanceMethod yX4_back ∈ TG := TG_in 487 (by decide +kernel) rfl
theorem se_X4_back : Cond.selects yX4_back.cls yX4_back yX4_back ∈ TG := TG_in 488 (by decide +kernel) rfl
theorem co_X4_back : Cond.code yX4_back cX4_back 1 (some .int) ∈ TG := TG_in 489 (by decide +kernel) rfl
theorem mt_X4_back : Mt yX4_back cX4_back 1 (some .int) 0 := ⟨co_X4_back, ini_X4, ⟨by decide +kernel, by decide +kernel, by decide +kernel⟩, by decide⟩
theorem ml_X4_163 : Cond.methodLink RX4 163 yX1_giveBackTo ∈ TG := TG_in 490 (by decide +kernel) rfl
theorem im_X1_giveBackTo : Cond.instanceMethod yX1_giveBackTo ∈ TG := TG_in 491 (by decide +kernel) rfl
theorem se_X1_giveBackTo : Cond.selects yX1_giveBackTo.cls yX1_giveBackTo yX1_giveBackTo ∈ TG := TG_in 492 (by decide +kernel) rfl
theorem co_X1_giveBackTo : Cond.code yX1_giveBackTo cX1_giveBackTo 2 none ∈ TG := TG_in 493 (by decide +kernel) rfl
theorem mt_X1_giveBackTo : Mt yX1_giveBackTo cX1_giveBackTo 2 none 1 := ⟨co_X1_giveBackTo, ini_X1, ⟨by decide +kernel, by decide +kernel, by decide +kernel⟩, by decide⟩
theorem ml_L_114 : Cond.methodLink RL 114 yX4_told ∈ TG := TG_in 494 (by decide +kernel) rfl
theorem im_X4_told : Cond.instanceMethod yX4_told ∈ TG := TG_in 495 (by decide +kernel) rfl
theorem se_X4_told : Cond.selects yX4_told.cls yX4_told yX4_told ∈ TG := TG_in 496 (by decide +kernel) rfl
theorem co_X4_told : Cond.code yX4_told cX4_told 2 (some .int) ∈ TG := TG_in 497 (by decide +kernel) rfl
theorem mt_X4_told : Mt yX4_told cX4_told 2 (some .int) 1 := ⟨co_X4_told, ini_X4, ⟨by decide +kernel, by decide +kernel, by decide +kernel⟩, by decide⟩
theorem ml_L_118 : Cond.methodLink RL 118 yX4_digest ∈ TG := TG_in 498 (by decide +kernel) rfl
theorem im_X4_digest : Cond.instanceMethod yX4_digest ∈ TG := TG_in 499 (by decide +kernel) rfl
theorem se_X4_digest : Cond.selects yX4_digest.cls yX4_digest yX4_digest ∈ TG := TG_in 500 (by decide +kernel) rfl
theorem co_X4_digest : Cond.code yX4_digest cX4_digest 5 (some .long) ∈ TG := TG_in 501 (by decide +kernel) rfl
theorem mt_X4_digest : Mt yX4_digest cX4_digest 5 (some .long) 0 := ⟨co_X4_digest, ini_X4, ⟨by decide +kernel, by decide +kernel, by decide +kernel⟩, by decide⟩
theorem cn_X4_178 : Cond.constantLong RX4 178 (2892) ∈ TG := TG_in 502 (by decide +kernel) rfl
theorem cn_X4_180 : Cond.constantLong RX4 180 (31) ∈ TG := TG_in 503 (by decide +kernel) rfl
theorem ml_X4_182 : Cond.methodLink RX4 182 yX4_told ∈ TG := TG_in 504 (by decide +kernel) rfl
theorem ml_X4_185 : Cond.methodLink RX4 185 yX4_count ∈ TG := TG_in 505 (by decide +kernel) rfl
theorem ml_X4_188 : Cond.methodLink RX4 188 yX4_drum ∈ TG := TG_in 506 (by decide +kernel) rfl
theorem ml_X4_191 : Cond.methodLink RX4 191 yX4_wheel ∈ TG := TG_in 507 (by decide +kernel) rfl
theorem ml_X4_194 : Cond.methodLink RX4 194 yX4_counter ∈ TG := TG_in 508 (by decide +kernel) rfl
theorem ml_X4_197 : Cond.methodLink RX4 197 yX4_value ∈ TG := TG_in 509 (by decide +kernel) rfl
theorem ml_X4_201 : Cond.methodLink RX4 201 yX4_trial ∈ TG := TG_in 510 (by decide +kernel) rfl
theorem ml_X4_205 : Cond.methodLink RX4 205 yX4_explains ∈ TG := TG_in 511 (by decide +kernel) rfl
theorem ml_L_12 : Cond.methodLink RL 12 yX5_init ∈ TG := TG_in 514 (by decide +kernel) rfl
theorem im_X5_init : Cond.instanceMethod yX5_init ∈ TG := TG_in 515 (by decide +kernel) rfl
theorem co_X5_init : Cond.code yX5_init cX5_init 1 none ∈ TG := TG_in 516 (by decide +kernel) rfl
theorem mt_X5_init : Mt yX5_init cX5_init 1 none 0 := ⟨co_X5_init, ini_X5, ⟨by decide +kernel, by decide +kernel, by decide +kernel⟩, by decide⟩
theorem ml_X5_1 : Cond.methodLink RX5 1 objectInit ∈ TG := TG_in 517 (by decide +kernel) rfl
theorem fl_X5_7 : Cond.fieldLink RX5 7 (TX5 0).1 (TX5 0).2.1 (TX5 0).2.2.1 ∈ TG := TG_in 518 (by decide +kernel) rfl
theorem fl_X5_13 : Cond.fieldLink RX5 13 (TX5 1).1 (TX5 1).2.1 (TX5 1).2.2.1 ∈ TG := TG_in 519 (by decide +kernel) rfl
theorem fl_X5_16 : Cond.fieldLink RX5 16 (TX5 2).1 (TX5 2).2.1 (TX5 2).2.2.1 ∈ TG := TG_in 520 (by decide +kernel) rfl
theorem fl_X5_40 : Cond.fieldLink RX5 40 (TX5 3).1 (TX5 3).2.1 (TX5 3).2.2.1 ∈ TG := TG_in 521 (by decide +kernel) rfl
theorem fl_X5_19 : Cond.fieldLink RX5 19 (TX5 4).1 (TX5 4).2.1 (TX5 4).2.2.1 ∈ TG := TG_in 522 (by decide +kernel) rfl
theorem fl_X5_22 : Cond.fieldLink RX5 22 (TX5 5).1 (TX5 5).2.1 (TX5 5).2.2.1 ∈ TG := TG_in 523 (by decide +kernel) rfl
theorem fl_X5_180 : Cond.fieldLink RX5 180 (TX5 6).1 (TX5 6).2.1 (TX5 6).2.2.1 ∈ TG := TG_in 524 (by decide +kernel) rfl
theorem fl_X5_25 : Cond.fieldLink RX5 25 (TX5 7).1 (TX5 7).2.1 (TX5 7).2.2.1 ∈ TG := TG_in 525 (by decide +kernel) rfl
theorem fl_X5_28 : Cond.fieldLink RX5 28 (TX5 8).1 (TX5 8).2.1 (TX5 8).2.2.1 ∈ TG := TG_in 526 (by decide +kernel) rfl
theorem fl_X5_31 : Cond.fieldLink RX5 31 (TX5 9).1 (TX5 9).2.1 (TX5 9).2.2.1 ∈ TG := TG_in 527 (by decide +kernel) rfl
theorem fl_X5_34 : Cond.fieldLink RX5 34 (TX5 10).1 (TX5 10).2.1 (TX5 10).2.2.1 ∈ TG := TG_in 528 (by decide +kernel) rfl
theorem fl_X5_37 : Cond.fieldLink RX5 37 (TX5 11).1 (TX5 11).2.1 (TX5 11).2.2.1 ∈ TG := TG_in 529 (by decide +kernel) rfl
theorem fl_X5_201 : Cond.fieldLink RX5 201 (TX5 12).1 (TX5 12).2.1 (TX5 12).2.2.1 ∈ TG := TG_in 530 (by decide +kernel) rfl
theorem fl_X5_183 : Cond.fieldLink RX5 183 (TX5 13).1 (TX5 13).2.1 (TX5 13).2.2.1 ∈ TG := TG_in 531 (by decide +kernel) rfl
theorem fl_X5_189 : Cond.fieldLink RX5 189 (TX5 14).1 (TX5 14).2.1 (TX5 14).2.2.1 ∈ TG := TG_in 532 (by decide +kernel) rfl
theorem fl_X5_223 : Cond.fieldLink RX5 223 (TX5 15).1 (TX5 15).2.1 (TX5 15).2.2.1 ∈ TG := TG_in 533 (by decide +kernel) rfl
theorem ml_L_113 : Cond.methodLink RL 113 yX5_back ∈ TG := TG_in 567 (by decide +kernel) rfl
theorem im_X5_back : Cond.instanceMethod yX5_back ∈ TG := TG_in 568 (by decide +kernel) rfl
theorem se_X5_back : Cond.selects yX5_back.cls yX5_back yX5_back ∈ TG := TG_in 569 (by decide +kernel) rfl
theorem co_X5_back : Cond.code yX5_back cX5_back 2 (some .int) ∈ TG := TG_in 570 (by decide +kernel) rfl
theorem mt_X5_back : Mt yX5_back cX5_back 2 (some .int) 0 := ⟨co_X5_back, ini_X5, ⟨by decide +kernel, by decide +kernel, by decide +kernel⟩, by decide⟩
theorem ml_X5_44 : Cond.methodLink RX5 44 yX5_refuses ∈ TG := TG_in 571 (by decide +kernel) rfl
theorem im_X5_refuses : Cond.instanceMethod yX5_refuses ∈ TG := TG_in 573 (by decide +kernel) rfl
theorem co_X5_refuses : Cond.code yX5_refuses cX5_refuses 2 (some .int) ∈ TG := TG_in 574 (by decide +kernel) rfl
theorem mt_X5_refuses : Mt yX5_refuses cX5_refuses 2 (some .int) 1 := ⟨co_X5_refuses, ini_X5, ⟨by decide +kernel, by decide +kernel, by decide +kernel⟩, by decide⟩
theorem ml_L_17 : Cond.methodLink RL 17 yX5_sets ∈ TG := TG_in 575 (by decide +kernel) rfl
theorem im_X5_sets : Cond.instanceMethod yX5_sets ∈ TG := TG_in 576 (by decide +kernel) rfl
theorem se_X5_sets : Cond.selects yX5_sets.cls yX5_sets yX5_sets ∈ TG := TG_in 577 (by decide +kernel) rfl
theorem co_X5_sets : Cond.code yX5_sets cX5_sets 3 (some .int) ∈ TG := TG_in 578 (by decide +kernel) rfl
theorem mt_X5_sets : Mt yX5_sets cX5_sets 3 (some .int) 2 := ⟨co_X5_sets, ini_X5, ⟨by decide +kernel, by decide +kernel, by decide +kernel⟩, by decide⟩
theorem ml_X5_114 : Cond.methodLink RX5 114 yX5_laysAside ∈ TG := TG_in 579 (by decide +kernel) rfl
theorem im_X5_laysAside : Cond.instanceMethod yX5_laysAside ∈ TG := TG_in 581 (by decide +kernel) rfl
theorem co_X5_laysAside : Cond.code yX5_laysAside cX5_laysAside 2 none ∈ TG := TG_in 582 (by decide +kernel) rfl
theorem mt_X5_laysAside : Mt yX5_laysAside cX5_laysAside 2 none 0 := ⟨co_X5_laysAside, ini_X5, ⟨by decide +kernel, by decide +kernel, by decide +kernel⟩, by decide⟩
theorem ml_X5_117 : Cond.methodLink RX5 117 yX5_putDigit ∈ TG := TG_in 583 (by decide +kernel) rfl
theorem im_X5_putDigit : Cond.instanceMethod yX5_putDigit ∈ TG := TG_in 585 (by decide +kernel) rfl
theorem co_X5_putDigit : Cond.code yX5_putDigit cX5_putDigit 3 (some .int) ∈ TG := TG_in 586 (by decide +kernel) rfl
theorem mt_X5_putDigit : Mt yX5_putDigit cX5_putDigit 3 (some .int) 2 := ⟨co_X5_putDigit, ini_X5, ⟨by decide +kernel, by decide +kernel, by decide +kernel⟩, by decide⟩
theorem ml_X5_90 : Cond.methodLink RX5 90 yX5_isDrum ∈ TG := TG_in 587 (by decide +kernel) rfl
theorem st_X5_isDrum : Cond.static yX5_isDrum ∈ TG := TG_in 588 (by decide +kernel) rfl
theorem co_X5_isDrum : Cond.code yX5_isDrum cX5_isDrum 1 (some .boolean) ∈ TG := TG_in 589 (by decide +kernel) rfl
theorem mt_X5_isDrum : Mt yX5_isDrum cX5_isDrum 1 (some .boolean) 1 := ⟨co_X5_isDrum, ini_X5, ⟨by decide +kernel, by decide +kernel, by decide +kernel⟩, by decide⟩
theorem cn_X5_51 : Cond.constantLong RX5 51 (5) ∈ TG := TG_in 590 (by decide +kernel) rfl
theorem ml_X5_53 : Cond.methodLink RX5 53 yX5_in ∈ TG := TG_in 591 (by decide +kernel) rfl
theorem st_X5_in : Cond.static yX5_in ∈ TG := TG_in 592 (by decide +kernel) rfl
theorem co_X5_in : Cond.code yX5_in cX5_in 6 (some .boolean) ∈ TG := TG_in 593 (by decide +kernel) rfl
theorem mt_X5_in : Mt yX5_in cX5_in 6 (some .boolean) 3 := ⟨co_X5_in, ini_X5, ⟨by decide +kernel, by decide +kernel, by decide +kernel⟩, by decide⟩
theorem cn_X5_94 : Cond.constantLong RX5 94 (9) ∈ TG := TG_in 594 (by decide +kernel) rfl
theorem ml_X5_96 : Cond.methodLink RX5 96 yX5_change ∈ TG := TG_in 595 (by decide +kernel) rfl
theorem im_X5_change : Cond.instanceMethod yX5_change ∈ TG := TG_in 597 (by decide +kernel) rfl
theorem co_X5_change : Cond.code yX5_change cX5_change 4 (some .int) ∈ TG := TG_in 598 (by decide +kernel) rfl
theorem mt_X5_change : Mt yX5_change cX5_change 4 (some .int) 2 := ⟨co_X5_change, ini_X5, ⟨by decide +kernel, by decide +kernel, by decide +kernel⟩, by decide⟩
theorem ml_X5_120 : Cond.methodLink RX5 120 yX5_finished ∈ TG := TG_in 599 (by decide +kernel) rfl
theorem im_X5_finished : Cond.instanceMethod yX5_finished ∈ TG := TG_in 601 (by decide +kernel) rfl
theorem co_X5_finished : Cond.code yX5_finished cX5_finished 2 (some .int) ∈ TG := TG_in 602 (by decide +kernel) rfl
theorem mt_X5_finished : Mt yX5_finished cX5_finished 2 (some .int) 1 := ⟨co_X5_finished, ini_X5, ⟨by decide +kernel, by decide +kernel, by decide +kernel⟩, by decide⟩
theorem ml_X5_48 : Cond.methodLink RX5 48 yX5_remembers ∈ TG := TG_in 603 (by decide +kernel) rfl
theorem im_X5_remembers : Cond.instanceMethod yX5_remembers ∈ TG := TG_in 605 (by decide +kernel) rfl
theorem co_X5_remembers : Cond.code yX5_remembers cX5_remembers 2 none ∈ TG := TG_in 606 (by decide +kernel) rfl
theorem mt_X5_remembers : Mt yX5_remembers cX5_remembers 2 none 0 := ⟨co_X5_remembers, ini_X5, ⟨by decide +kernel, by decide +kernel, by decide +kernel⟩, by decide⟩
theorem ml_L_22 : Cond.methodLink RL 22 yX5_input ∈ TG := TG_in 607 (by decide +kernel) rfl
theorem im_X5_input : Cond.instanceMethod yX5_input ∈ TG := TG_in 608 (by decide +kernel) rfl
theorem se_X5_input : Cond.selects yX5_input.cls yX5_input yX5_input ∈ TG := TG_in 609 (by decide +kernel) rfl
theorem co_X5_input : Cond.code yX5_input cX5_input 2 (some .int) ∈ TG := TG_in 610 (by decide +kernel) rfl
theorem mt_X5_input : Mt yX5_input cX5_input 2 (some .int) 1 := ⟨co_X5_input, ini_X5, ⟨by decide +kernel, by decide +kernel, by decide +kernel⟩, by decide⟩
theorem ml_X5_123 : Cond.methodLink RX5 123 yX5_putInput ∈ TG := TG_in 611 (by decide +kernel) rfl
theorem im_X5_putInput : Cond.instanceMethod yX5_putInput ∈ TG := TG_in 613 (by decide +kernel) rfl
theorem co_X5_putInput : Cond.code yX5_putInput cX5_putInput 5 (some .int) ∈ TG := TG_in 614 (by decide +kernel) rfl
theorem mt_X5_putInput : Mt yX5_putInput cX5_putInput 5 (some .int) 1 := ⟨co_X5_putInput, ini_X5, ⟨by decide +kernel, by decide +kernel, by decide +kernel⟩, by decide⟩
theorem cn_X5_77 : Cond.constantLong RX5 77 (999999) ∈ TG := TG_in 615 (by decide +kernel) rfl
theorem ml_X5_106 : Cond.methodLink RX5 106 yX5_number ∈ TG := TG_in 616 (by decide +kernel) rfl
theorem st_X5_number : Cond.static yX5_number ∈ TG := TG_in 617 (by decide +kernel) rfl
theorem co_X5_number : Cond.code yX5_number cX5_number 5 (some .int) ∈ TG := TG_in 618 (by decide +kernel) rfl
theorem mt_X5_number : Mt yX5_number cX5_number 5 (some .int) 3 := ⟨co_X5_number, ini_X5, ⟨by decide +kernel, by decide +kernel, by decide +kernel⟩, by decide⟩
theorem ml_L_26 : Cond.methodLink RL 26 yX5_shifts ∈ TG := TG_in 619 (by decide +kernel) rfl
theorem im_X5_shifts : Cond.instanceMethod yX5_shifts ∈ TG := TG_in 620 (by decide +kernel) rfl
theorem se_X5_shifts : Cond.selects yX5_shifts.cls yX5_shifts yX5_shifts ∈ TG := TG_in 621 (by decide +kernel) rfl
theorem co_X5_shifts : Cond.code yX5_shifts cX5_shifts 2 (some .int) ∈ TG := TG_in 622 (by decide +kernel) rfl
theorem mt_X5_shifts : Mt yX5_shifts cX5_shifts 2 (some .int) 1 := ⟨co_X5_shifts, ini_X5, ⟨by decide +kernel, by decide +kernel, by decide +kernel⟩, by decide⟩
theorem ml_X5_126 : Cond.methodLink RX5 126 yX5_putShift ∈ TG := TG_in 623 (by decide +kernel) rfl
theorem im_X5_putShift : Cond.instanceMethod yX5_putShift ∈ TG := TG_in 625 (by decide +kernel) rfl
theorem co_X5_putShift : Cond.code yX5_putShift cX5_putShift 2 (some .int) ∈ TG := TG_in 626 (by decide +kernel) rfl
theorem mt_X5_putShift : Mt yX5_putShift cX5_putShift 2 (some .int) 1 := ⟨co_X5_putShift, ini_X5, ⟨by decide +kernel, by decide +kernel, by decide +kernel⟩, by decide⟩
theorem cn_X5_99 : Cond.constantLong RX5 99 (6) ∈ TG := TG_in 627 (by decide +kernel) rfl
theorem ml_L_30 : Cond.methodLink RL 30 yX5_reaches ∈ TG := TG_in 628 (by decide +kernel) rfl
theorem im_X5_reaches : Cond.instanceMethod yX5_reaches ∈ TG := TG_in 629 (by decide +kernel) rfl
theorem se_X5_reaches : Cond.selects yX5_reaches.cls yX5_reaches yX5_reaches ∈ TG := TG_in 630 (by decide +kernel) rfl
theorem co_X5_reaches : Cond.code yX5_reaches cX5_reaches 2 (some .int) ∈ TG := TG_in 631 (by decide +kernel) rfl
theorem mt_X5_reaches : Mt yX5_reaches cX5_reaches 2 (some .int) 1 := ⟨co_X5_reaches, ini_X5, ⟨by decide +kernel, by decide +kernel, by decide +kernel⟩, by decide⟩
theorem ml_X5_129 : Cond.methodLink RX5 129 yX5_putReach ∈ TG := TG_in 632 (by decide +kernel) rfl
theorem im_X5_putReach : Cond.instanceMethod yX5_putReach ∈ TG := TG_in 634 (by decide +kernel) rfl
theorem co_X5_putReach : Cond.code yX5_putReach cX5_putReach 2 (some .int) ∈ TG := TG_in 635 (by decide +kernel) rfl
theorem mt_X5_putReach : Mt yX5_putReach cX5_putReach 2 (some .int) 1 := ⟨co_X5_putReach, ini_X5, ⟨by decide +kernel, by decide +kernel, by decide +kernel⟩, by decide⟩
theorem cn_X5_101 : Cond.constantLong RX5 101 (12) ∈ TG := TG_in 636 (by decide +kernel) rfl
theorem ml_L_34 : Cond.methodLink RL 34 yX5_wears ∈ TG := TG_in 637 (by decide +kernel) rfl
theorem im_X5_wears : Cond.instanceMethod yX5_wears ∈ TG := TG_in 638 (by decide +kernel) rfl
theorem se_X5_wears : Cond.selects yX5_wears.cls yX5_wears yX5_wears ∈ TG := TG_in 639 (by decide +kernel) rfl
theorem co_X5_wears : Cond.code yX5_wears cX5_wears 3 (some .int) ∈ TG := TG_in 640 (by decide +kernel) rfl
theorem mt_X5_wears : Mt yX5_wears cX5_wears 3 (some .int) 2 := ⟨co_X5_wears, ini_X5, ⟨by decide +kernel, by decide +kernel, by decide +kernel⟩, by decide⟩
theorem ml_X5_132 : Cond.methodLink RX5 132 yX5_putWorn ∈ TG := TG_in 641 (by decide +kernel) rfl
theorem im_X5_putWorn : Cond.instanceMethod yX5_putWorn ∈ TG := TG_in 643 (by decide +kernel) rfl
theorem co_X5_putWorn : Cond.code yX5_putWorn cX5_putWorn 3 (some .int) ∈ TG := TG_in 644 (by decide +kernel) rfl
theorem mt_X5_putWorn : Mt yX5_putWorn cX5_putWorn 3 (some .int) 2 := ⟨co_X5_putWorn, ini_X5, ⟨by decide +kernel, by decide +kernel, by decide +kernel⟩, by decide⟩
theorem ml_X5_103 : Cond.methodLink RX5 103 yX5_wornMany ∈ TG := TG_in 645 (by decide +kernel) rfl
theorem st_X5_wornMany : Cond.static yX5_wornMany ∈ TG := TG_in 646 (by decide +kernel) rfl
theorem co_X5_wornMany : Cond.code yX5_wornMany cX5_wornMany 3 (some .int) ∈ TG := TG_in 647 (by decide +kernel) rfl
theorem mt_X5_wornMany : Mt yX5_wornMany cX5_wornMany 3 (some .int) 1 := ⟨co_X5_wornMany, ini_X5, ⟨by decide +kernel, by decide +kernel, by decide +kernel⟩, by decide⟩
theorem ml_L_39 : Cond.methodLink RL 39 yX5_clears ∈ TG := TG_in 648 (by decide +kernel) rfl
theorem im_X5_clears : Cond.instanceMethod yX5_clears ∈ TG := TG_in 649 (by decide +kernel) rfl
theorem se_X5_clears : Cond.selects yX5_clears.cls yX5_clears yX5_clears ∈ TG := TG_in 650 (by decide +kernel) rfl
theorem co_X5_clears : Cond.code yX5_clears cX5_clears 1 (some .int) ∈ TG := TG_in 651 (by decide +kernel) rfl
theorem mt_X5_clears : Mt yX5_clears cX5_clears 1 (some .int) 0 := ⟨co_X5_clears, ini_X5, ⟨by decide +kernel, by decide +kernel, by decide +kernel⟩, by decide⟩
theorem ml_X5_79 : Cond.methodLink RX5 79 yX5_clearsAll ∈ TG := TG_in 652 (by decide +kernel) rfl
theorem im_X5_clearsAll : Cond.instanceMethod yX5_clearsAll ∈ TG := TG_in 654 (by decide +kernel) rfl
theorem co_X5_clearsAll : Cond.code yX5_clearsAll cX5_clearsAll 3 (some .int) ∈ TG := TG_in 655 (by decide +kernel) rfl
theorem mt_X5_clearsAll : Mt yX5_clearsAll cX5_clearsAll 3 (some .int) 0 := ⟨co_X5_clearsAll, ini_X5, ⟨by decide +kernel, by decide +kernel, by decide +kernel⟩, by decide⟩
theorem ml_X5_74 : Cond.methodLink RX5 74 yX5_clearsCounters ∈ TG := TG_in 656 (by decide +kernel) rfl
theorem im_X5_clearsCounters : Cond.instanceMethod yX5_clearsCounters ∈ TG := TG_in 658 (by decide +kernel) rfl
theorem co_X5_clearsCounters : Cond.code yX5_clearsCounters cX5_clearsCounters 2 none ∈ TG := TG_in 659 (by decide +kernel) rfl
theorem mt_X5_clearsCounters : Mt yX5_clearsCounters cX5_clearsCounters 2 none 0 := ⟨co_X5_clearsCounters, ini_X5, ⟨by decide +kernel, by decide +kernel, by decide +kernel⟩, by decide⟩
theorem ml_L_46 : Cond.methodLink RL 46 yX5_lays ∈ TG := TG_in 660 (by decide +kernel) rfl
theorem im_X5_lays : Cond.instanceMethod yX5_lays ∈ TG := TG_in 661 (by decide +kernel) rfl
theorem se_X5_lays : Cond.selects yX5_lays.cls yX5_lays yX5_lays ∈ TG := TG_in 662 (by decide +kernel) rfl
theorem co_X5_lays : Cond.code yX5_lays cX5_lays 3 (some .int) ∈ TG := TG_in 663 (by decide +kernel) rfl
theorem mt_X5_lays : Mt yX5_lays cX5_lays 3 (some .int) 1 := ⟨co_X5_lays, ini_X5, ⟨by decide +kernel, by decide +kernel, by decide +kernel⟩, by decide⟩
theorem ml_X5_135 : Cond.methodLink RX5 135 yX5_putWheels ∈ TG := TG_in 664 (by decide +kernel) rfl
theorem im_X5_putWheels : Cond.instanceMethod yX5_putWheels ∈ TG := TG_in 666 (by decide +kernel) rfl
theorem co_X5_putWheels : Cond.code yX5_putWheels cX5_putWheels 8 (some .int) ∈ TG := TG_in 667 (by decide +kernel) rfl
theorem mt_X5_putWheels : Mt yX5_putWheels cX5_putWheels 8 (some .int) 1 := ⟨co_X5_putWheels, ini_X5, ⟨by decide +kernel, by decide +kernel, by decide +kernel⟩, by decide⟩
theorem cn_X5_110 : Cond.constantLong RX5 110 (999999999999) ∈ TG := TG_in 668 (by decide +kernel) rfl
theorem cn_X5_112 : Cond.constantLong RX5 112 (10) ∈ TG := TG_in 669 (by decide +kernel) rfl
theorem ml_L_50 : Cond.methodLink RL 50 yX5_ups ∈ TG := TG_in 670 (by decide +kernel) rfl
theorem im_X5_ups : Cond.instanceMethod yX5_ups ∈ TG := TG_in 671 (by decide +kernel) rfl
theorem se_X5_ups : Cond.selects yX5_ups.cls yX5_ups yX5_ups ∈ TG := TG_in 672 (by decide +kernel) rfl
theorem co_X5_ups : Cond.code yX5_ups cX5_ups 2 (some .int) ∈ TG := TG_in 673 (by decide +kernel) rfl
theorem mt_X5_ups : Mt yX5_ups cX5_ups 2 (some .int) 1 := ⟨co_X5_ups, ini_X5, ⟨by decide +kernel, by decide +kernel, by decide +kernel⟩, by decide⟩
theorem ml_X5_139 : Cond.methodLink RX5 139 yX5_doesTurns ∈ TG := TG_in 674 (by decide +kernel) rfl
theorem im_X5_doesTurns : Cond.instanceMethod yX5_doesTurns ∈ TG := TG_in 676 (by decide +kernel) rfl
theorem co_X5_doesTurns : Cond.code yX5_doesTurns cX5_doesTurns 5 (some .int) ∈ TG := TG_in 677 (by decide +kernel) rfl
theorem mt_X5_doesTurns : Mt yX5_doesTurns cX5_doesTurns 5 (some .int) 2 := ⟨co_X5_doesTurns, ini_X5, ⟨by decide +kernel, by decide +kernel, by decide +kernel⟩, by decide⟩
theorem cn_X5_65 : Cond.constantLong RX5 65 (99) ∈ TG := TG_in 678 (by decide +kernel) rfl
theorem ml_X5_67 : Cond.methodLink RX5 67 yX5_laysGives ∈ TG := TG_in 679 (by decide +kernel) rfl
theorem im_X5_laysGives : Cond.instanceMethod yX5_laysGives ∈ TG := TG_in 681 (by decide +kernel) rfl
theorem co_X5_laysGives : Cond.code yX5_laysGives cX5_laysGives 2 none ∈ TG := TG_in 682 (by decide +kernel) rfl
theorem mt_X5_laysGives : Mt yX5_laysGives cX5_laysGives 2 none 0 := ⟨co_X5_laysGives, ini_X5, ⟨by decide +kernel, by decide +kernel, by decide +kernel⟩, by decide⟩
theorem ml_X5_57 : Cond.methodLink RX5 57 yX5_whole ∈ TG := TG_in 683 (by decide +kernel) rfl
theorem st_X5_whole : Cond.static yX5_whole ∈ TG := TG_in 684 (by decide +kernel) rfl
theorem co_X5_whole : Cond.code yX5_whole cX5_whole 4 (some .int) ∈ TG := TG_in 685 (by decide +kernel) rfl
theorem mt_X5_whole : Mt yX5_whole cX5_whole 4 (some .int) 2 := ⟨co_X5_whole, ini_X5, ⟨by decide +kernel, by decide +kernel, by decide +kernel⟩, by decide⟩
theorem ml_X5_70 : Cond.methodLink RX5 70 yX5_turnsOnce ∈ TG := TG_in 686 (by decide +kernel) rfl
theorem im_X5_turnsOnce : Cond.instanceMethod yX5_turnsOnce ∈ TG := TG_in 688 (by decide +kernel) rfl
theorem co_X5_turnsOnce : Cond.code yX5_turnsOnce cX5_turnsOnce 5 (some .boolean) ∈ TG := TG_in 689 (by decide +kernel) rfl
theorem mt_X5_turnsOnce : Mt yX5_turnsOnce cX5_turnsOnce 5 (some .boolean) 2 := ⟨co_X5_turnsOnce, ini_X5, ⟨by decide +kernel, by decide +kernel, by decide +kernel⟩, by decide⟩
theorem ml_X5_61 : Cond.methodLink RX5 61 yX5_turnsBy ∈ TG := TG_in 690 (by decide +kernel) rfl
theorem im_X5_turnsBy : Cond.instanceMethod yX5_turnsBy ∈ TG := TG_in 692 (by decide +kernel) rfl
theorem co_X5_turnsBy : Cond.code yX5_turnsBy cX5_turnsBy 10 (some .boolean) ∈ TG := TG_in 693 (by decide +kernel) rfl
theorem mt_X5_turnsBy : Mt yX5_turnsBy cX5_turnsBy 10 (some .boolean) 4 := ⟨co_X5_turnsBy, ini_X5, ⟨by decide +kernel, by decide +kernel, by decide +kernel⟩, by decide⟩
theorem ml_L_54 : Cond.methodLink RL 54 yX5_downs ∈ TG := TG_in 694 (by decide +kernel) rfl
theorem im_X5_downs : Cond.instanceMethod yX5_downs ∈ TG := TG_in 695 (by decide +kernel) rfl
theorem se_X5_downs : Cond.selects yX5_downs.cls yX5_downs yX5_downs ∈ TG := TG_in 696 (by decide +kernel) rfl
theorem co_X5_downs : Cond.code yX5_downs cX5_downs 2 (some .int) ∈ TG := TG_in 697 (by decide +kernel) rfl
theorem mt_X5_downs : Mt yX5_downs cX5_downs 2 (some .int) 1 := ⟨co_X5_downs, ini_X5, ⟨by decide +kernel, by decide +kernel, by decide +kernel⟩, by decide⟩
theorem ml_L_58 : Cond.methodLink RL 58 yX5_times ∈ TG := TG_in 698 (by decide +kernel) rfl
theorem im_X5_times : Cond.instanceMethod yX5_times ∈ TG := TG_in 699 (by decide +kernel) rfl
theorem se_X5_times : Cond.selects yX5_times.cls yX5_times yX5_times ∈ TG := TG_in 700 (by decide +kernel) rfl
theorem co_X5_times : Cond.code yX5_times cX5_times 3 (some .int) ∈ TG := TG_in 701 (by decide +kernel) rfl
theorem mt_X5_times : Mt yX5_times cX5_times 3 (some .int) 2 := ⟨co_X5_times, ini_X5, ⟨by decide +kernel, by decide +kernel, by decide +kernel⟩, by decide⟩
theorem ml_X5_142 : Cond.methodLink RX5 142 yX5_doesTimes ∈ TG := TG_in 702 (by decide +kernel) rfl
theorem im_X5_doesTimes : Cond.instanceMethod yX5_doesTimes ∈ TG := TG_in 704 (by decide +kernel) rfl
theorem co_X5_doesTimes : Cond.code yX5_doesTimes cX5_doesTimes 9 (some .int) ∈ TG := TG_in 705 (by decide +kernel) rfl
theorem mt_X5_doesTimes : Mt yX5_doesTimes cX5_doesTimes 9 (some .int) 2 := ⟨co_X5_doesTimes, ini_X5, ⟨by decide +kernel, by decide +kernel, by decide +kernel⟩, by decide⟩
theorem ml_X5_83 : Cond.methodLink RX5 83 yX5_laysPlan ∈ TG := TG_in 706 (by decide +kernel) rfl
theorem im_X5_laysPlan : Cond.instanceMethod yX5_laysPlan ∈ TG := TG_in 708 (by decide +kernel) rfl
theorem co_X5_laysPlan : Cond.code yX5_laysPlan cX5_laysPlan 9 (some .int) ∈ TG := TG_in 709 (by decide +kernel) rfl
theorem mt_X5_laysPlan : Mt yX5_laysPlan cX5_laysPlan 9 (some .int) 2 := ⟨co_X5_laysPlan, ini_X5, ⟨by decide +kernel, by decide +kernel, by decide +kernel⟩, by decide⟩
theorem ml_L_62 : Cond.methodLink RL 62 yX5_divides ∈ TG := TG_in 710 (by decide +kernel) rfl
theorem im_X5_divides : Cond.instanceMethod yX5_divides ∈ TG := TG_in 711 (by decide +kernel) rfl
theorem se_X5_divides : Cond.selects yX5_divides.cls yX5_divides yX5_divides ∈ TG := TG_in 712 (by decide +kernel) rfl
theorem co_X5_divides : Cond.code yX5_divides cX5_divides 2 (some .int) ∈ TG := TG_in 713 (by decide +kernel) rfl
theorem mt_X5_divides : Mt yX5_divides cX5_divides 2 (some .int) 0 := ⟨co_X5_divides, ini_X5, ⟨by decide +kernel, by decide +kernel, by decide +kernel⟩, by decide⟩
theorem ml_X5_145 : Cond.methodLink RX5 145 yX5_doesDivide ∈ TG := TG_in 714 (by decide +kernel) rfl
theorem im_X5_doesDivide : Cond.instanceMethod yX5_doesDivide ∈ TG := TG_in 716 (by decide +kernel) rfl
theorem co_X5_doesDivide : Cond.code yX5_doesDivide cX5_doesDivide 5 (some .int) ∈ TG := TG_in 717 (by decide +kernel) rfl
theorem mt_X5_doesDivide : Mt yX5_doesDivide cX5_doesDivide 5 (some .int) 0 := ⟨co_X5_doesDivide, ini_X5, ⟨by decide +kernel, by decide +kernel, by decide +kernel⟩, by decide⟩
theorem ml_X5_86 : Cond.methodLink RX5 86 yX5_downs0 ∈ TG := TG_in 718 (by decide +kernel) rfl
theorem im_X5_downs0 : Cond.instanceMethod yX5_downs0 ∈ TG := TG_in 720 (by decide +kernel) rfl
theorem co_X5_downs0 : Cond.code yX5_downs0 cX5_downs0 3 (some .boolean) ∈ TG := TG_in 721 (by decide +kernel) rfl
theorem mt_X5_downs0 : Mt yX5_downs0 cX5_downs0 3 (some .boolean) 0 := ⟨co_X5_downs0, ini_X5, ⟨by decide +kernel, by decide +kernel, by decide +kernel⟩, by decide⟩
theorem ml_X5_148 : Cond.methodLink RX5 148 yX5_takesBack ∈ TG := TG_in 722 (by decide +kernel) rfl
theorem im_X5_takesBack : Cond.instanceMethod yX5_takesBack ∈ TG := TG_in 724 (by decide +kernel) rfl
theorem co_X5_takesBack : Cond.code yX5_takesBack cX5_takesBack 2 none ∈ TG := TG_in 725 (by decide +kernel) rfl
theorem mt_X5_takesBack : Mt yX5_takesBack cX5_takesBack 2 none 0 := ⟨co_X5_takesBack, ini_X5, ⟨by decide +kernel, by decide +kernel, by decide +kernel⟩, by decide⟩
theorem ml_L_66 : Cond.methodLink RL 66 yX5_turns ∈ TG := TG_in 726 (by decide +kernel) rfl
theorem im_X5_turns : Cond.instanceMethod yX5_turns ∈ TG := TG_in 727 (by decide +kernel) rfl
theorem se_X5_turns : Cond.selects yX5_turns.cls yX5_turns yX5_turns ∈ TG := TG_in 728 (by decide +kernel) rfl
theorem co_X5_turns : Cond.code yX5_turns cX5_turns 3 (some .int) ∈ TG := TG_in 729 (by decide +kernel) rfl
theorem mt_X5_turns : Mt yX5_turns cX5_turns 3 (some .int) 2 := ⟨co_X5_turns, ini_X5, ⟨by decide +kernel, by decide +kernel, by decide +kernel⟩, by decide⟩
theorem ml_L_70 : Cond.methodLink RL 70 yX5_drum ∈ TG := TG_in 730 (by decide +kernel) rfl
theorem im_X5_drum : Cond.instanceMethod yX5_drum ∈ TG := TG_in 731 (by decide +kernel) rfl
theorem se_X5_drum : Cond.selects yX5_drum.cls yX5_drum yX5_drum ∈ TG := TG_in 732 (by decide +kernel) rfl
theorem co_X5_drum : Cond.code yX5_drum cX5_drum 3 (some .int) ∈ TG := TG_in 733 (by decide +kernel) rfl
theorem mt_X5_drum : Mt yX5_drum cX5_drum 3 (some .int) 2 := ⟨co_X5_drum, ini_X5, ⟨by decide +kernel, by decide +kernel, by decide +kernel⟩, by decide⟩
theorem cn_X5_151 : Cond.constantLong RX5 151 (2) ∈ TG := TG_in 734 (by decide +kernel) rfl
theorem ml_X5_153 : Cond.methodLink RX5 153 yX5_drumTold ∈ TG := TG_in 735 (by decide +kernel) rfl
theorem im_X5_drumTold : Cond.instanceMethod yX5_drumTold ∈ TG := TG_in 737 (by decide +kernel) rfl
theorem co_X5_drumTold : Cond.code yX5_drumTold cX5_drumTold 3 (some .int) ∈ TG := TG_in 738 (by decide +kernel) rfl
theorem mt_X5_drumTold : Mt yX5_drumTold cX5_drumTold 3 (some .int) 2 := ⟨co_X5_drumTold, ini_X5, ⟨by decide +kernel, by decide +kernel, by decide +kernel⟩, by decide⟩
theorem ml_L_74 : Cond.methodLink RL 74 yX5_wheel ∈ TG := TG_in 739 (by decide +kernel) rfl
theorem im_X5_wheel : Cond.instanceMethod yX5_wheel ∈ TG := TG_in 740 (by decide +kernel) rfl
theorem se_X5_wheel : Cond.selects yX5_wheel.cls yX5_wheel yX5_wheel ∈ TG := TG_in 741 (by decide +kernel) rfl
theorem co_X5_wheel : Cond.code yX5_wheel cX5_wheel 2 (some .int) ∈ TG := TG_in 742 (by decide +kernel) rfl
theorem mt_X5_wheel : Mt yX5_wheel cX5_wheel 2 (some .int) 1 := ⟨co_X5_wheel, ini_X5, ⟨by decide +kernel, by decide +kernel, by decide +kernel⟩, by decide⟩
theorem cn_X5_156 : Cond.constantLong RX5 156 (11) ∈ TG := TG_in 743 (by decide +kernel) rfl
theorem ml_L_79 : Cond.methodLink RL 79 yX5_value ∈ TG := TG_in 744 (by decide +kernel) rfl
theorem im_X5_value : Cond.instanceMethod yX5_value ∈ TG := TG_in 745 (by decide +kernel) rfl
theorem se_X5_value : Cond.selects yX5_value.cls yX5_value yX5_value ∈ TG := TG_in 746 (by decide +kernel) rfl
theorem co_X5_value : Cond.code yX5_value cX5_value 1 (some .long) ∈ TG := TG_in 747 (by decide +kernel) rfl
theorem mt_X5_value : Mt yX5_value cX5_value 1 (some .long) 0 := ⟨co_X5_value, ini_X5, ⟨by decide +kernel, by decide +kernel, by decide +kernel⟩, by decide⟩
theorem ml_X5_158 : Cond.methodLink RX5 158 yX5_valueOf ∈ TG := TG_in 748 (by decide +kernel) rfl
theorem st_X5_valueOf : Cond.static yX5_valueOf ∈ TG := TG_in 749 (by decide +kernel) rfl
theorem co_X5_valueOf : Cond.code yX5_valueOf cX5_valueOf 5 (some .long) ∈ TG := TG_in 750 (by decide +kernel) rfl
theorem mt_X5_valueOf : Mt yX5_valueOf cX5_valueOf 5 (some .long) 2 := ⟨co_X5_valueOf, ini_X5, ⟨by decide +kernel, by decide +kernel, by decide +kernel⟩, by decide⟩
theorem ml_L_83 : Cond.methodLink RL 83 yX5_counter ∈ TG := TG_in 751 (by decide +kernel) rfl
theorem im_X5_counter : Cond.instanceMethod yX5_counter ∈ TG := TG_in 752 (by decide +kernel) rfl
theorem se_X5_counter : Cond.selects yX5_counter.cls yX5_counter yX5_counter ∈ TG := TG_in 753 (by decide +kernel) rfl
theorem co_X5_counter : Cond.code yX5_counter cX5_counter 2 (some .int) ∈ TG := TG_in 754 (by decide +kernel) rfl
theorem mt_X5_counter : Mt yX5_counter cX5_counter 2 (some .int) 1 := ⟨co_X5_counter, ini_X5, ⟨by decide +kernel, by decide +kernel, by decide +kernel⟩, by decide⟩
theorem ml_L_87 : Cond.methodLink RL 87 yX5_count ∈ TG := TG_in 755 (by decide +kernel) rfl
theorem im_X5_count : Cond.instanceMethod yX5_count ∈ TG := TG_in 756 (by decide +kernel) rfl
theorem se_X5_count : Cond.selects yX5_count.cls yX5_count yX5_count ∈ TG := TG_in 757 (by decide +kernel) rfl
theorem co_X5_count : Cond.code yX5_count cX5_count 2 (some .int) ∈ TG := TG_in 758 (by decide +kernel) rfl
theorem mt_X5_count : Mt yX5_count cX5_count 2 (some .int) 1 := ⟨co_X5_count, ini_X5, ⟨by decide +kernel, by decide +kernel, by decide +kernel⟩, by decide⟩
theorem cn_X5_162 : Cond.constantLong RX5 162 (7) ∈ TG := TG_in 759 (by decide +kernel) rfl
theorem ml_X5_164 : Cond.methodLink RX5 164 yX5_countTold ∈ TG := TG_in 760 (by decide +kernel) rfl
theorem im_X5_countTold : Cond.instanceMethod yX5_countTold ∈ TG := TG_in 762 (by decide +kernel) rfl
theorem co_X5_countTold : Cond.code yX5_countTold cX5_countTold 4 (some .int) ∈ TG := TG_in 763 (by decide +kernel) rfl
theorem mt_X5_countTold : Mt yX5_countTold cX5_countTold 4 (some .int) 1 := ⟨co_X5_countTold, ini_X5, ⟨by decide +kernel, by decide +kernel, by decide +kernel⟩, by decide⟩
theorem ml_L_92 : Cond.methodLink RL 92 yX5_trial ∈ TG := TG_in 764 (by decide +kernel) rfl
theorem im_X5_trial : Cond.instanceMethod yX5_trial ∈ TG := TG_in 765 (by decide +kernel) rfl
theorem se_X5_trial : Cond.selects yX5_trial.cls yX5_trial yX5_trial ∈ TG := TG_in 766 (by decide +kernel) rfl
theorem co_X5_trial : Cond.code yX5_trial cX5_trial 2 (some .long) ∈ TG := TG_in 767 (by decide +kernel) rfl
theorem mt_X5_trial : Mt yX5_trial cX5_trial 2 (some .long) 1 := ⟨co_X5_trial, ini_X5, ⟨by decide +kernel, by decide +kernel, by decide +kernel⟩, by decide⟩
theorem ml_X5_171 : Cond.methodLink RX5 171 yX5_trialOf ∈ TG := TG_in 768 (by decide +kernel) rfl
theorem im_X5_trialOf : Cond.instanceMethod yX5_trialOf ∈ TG := TG_in 770 (by decide +kernel) rfl
theorem co_X5_trialOf : Cond.code yX5_trialOf cX5_trialOf 2 (some .long) ∈ TG := TG_in 771 (by decide +kernel) rfl
theorem mt_X5_trialOf : Mt yX5_trialOf cX5_trialOf 2 (some .long) 1 := ⟨co_X5_trialOf, ini_X5, ⟨by decide +kernel, by decide +kernel, by decide +kernel⟩, by decide⟩
theorem ml_X5_167 : Cond.methodLink RX5 167 yX5_tries ∈ TG := TG_in 772 (by decide +kernel) rfl
theorem im_X5_tries : Cond.instanceMethod yX5_tries ∈ TG := TG_in 774 (by decide +kernel) rfl
theorem co_X5_tries : Cond.code yX5_tries cX5_tries 4 (some .long) ∈ TG := TG_in 775 (by decide +kernel) rfl
theorem mt_X5_tries : Mt yX5_tries cX5_tries 4 (some .long) 1 := ⟨co_X5_tries, ini_X5, ⟨by decide +kernel, by decide +kernel, by decide +kernel⟩, by decide⟩
theorem ml_L_97 : Cond.methodLink RL 97 yX5_explains ∈ TG := TG_in 776 (by decide +kernel) rfl
theorem im_X5_explains : Cond.instanceMethod yX5_explains ∈ TG := TG_in 777 (by decide +kernel) rfl
theorem se_X5_explains : Cond.selects yX5_explains.cls yX5_explains yX5_explains ∈ TG := TG_in 778 (by decide +kernel) rfl
theorem co_X5_explains : Cond.code yX5_explains cX5_explains 6 (some .int) ∈ TG := TG_in 779 (by decide +kernel) rfl
theorem mt_X5_explains : Mt yX5_explains cX5_explains 6 (some .int) 3 := ⟨co_X5_explains, ini_X5, ⟨by decide +kernel, by decide +kernel, by decide +kernel⟩, by decide⟩
theorem ml_X5_174 : Cond.methodLink RX5 174 yX5_explained ∈ TG := TG_in 780 (by decide +kernel) rfl
theorem im_X5_explained : Cond.instanceMethod yX5_explained ∈ TG := TG_in 782 (by decide +kernel) rfl
theorem co_X5_explained : Cond.code yX5_explained cX5_explained 11 (some .int) ∈ TG := TG_in 783 (by decide +kernel) rfl
theorem mt_X5_explained : Mt yX5_explained cX5_explained 11 (some .int) 3 := ⟨co_X5_explained, ini_X5, ⟨by decide +kernel, by decide +kernel, by decide +kernel⟩, by decide⟩
theorem ml_L_101 : Cond.methodLink RL 101 yX5_type ∈ TG := TG_in 784 (by decide +kernel) rfl
theorem im_X5_type : Cond.instanceMethod yX5_type ∈ TG := TG_in 785 (by decide +kernel) rfl
theorem se_X5_type : Cond.selects yX5_type.cls yX5_type yX5_type ∈ TG := TG_in 786 (by decide +kernel) rfl
theorem co_X5_type : Cond.code yX5_type cX5_type 2 (some .int) ∈ TG := TG_in 787 (by decide +kernel) rfl
theorem mt_X5_type : Mt yX5_type cX5_type 2 (some .int) 1 := ⟨co_X5_type, ini_X5, ⟨by decide +kernel, by decide +kernel, by decide +kernel⟩, by decide⟩
theorem cn_X5_178 : Cond.constantLong RX5 178 (127) ∈ TG := TG_in 788 (by decide +kernel) rfl
theorem ml_L_105 : Cond.methodLink RL 105 yX5_wipes ∈ TG := TG_in 789 (by decide +kernel) rfl
theorem im_X5_wipes : Cond.instanceMethod yX5_wipes ∈ TG := TG_in 790 (by decide +kernel) rfl
theorem se_X5_wipes : Cond.selects yX5_wipes.cls yX5_wipes yX5_wipes ∈ TG := TG_in 791 (by decide +kernel) rfl
theorem co_X5_wipes : Cond.code yX5_wipes cX5_wipes 2 (some .int) ∈ TG := TG_in 792 (by decide +kernel) rfl
theorem mt_X5_wipes : Mt yX5_wipes cX5_wipes 2 (some .int) 0 := ⟨co_X5_wipes, ini_X5, ⟨by decide +kernel, by decide +kernel, by decide +kernel⟩, by decide⟩
theorem ml_L_109 : Cond.methodLink RL 109 yX5_does ∈ TG := TG_in 793 (by decide +kernel) rfl
theorem im_X5_does : Cond.instanceMethod yX5_does ∈ TG := TG_in 794 (by decide +kernel) rfl
theorem se_X5_does : Cond.selects yX5_does.cls yX5_does yX5_does ∈ TG := TG_in 795 (by decide +kernel) rfl
theorem co_X5_does : Cond.code yX5_does cX5_does 2 (some .int) ∈ TG := TG_in 796 (by decide +kernel) rfl
theorem mt_X5_does : Mt yX5_does cX5_does 2 (some .int) 0 := ⟨co_X5_does, ini_X5, ⟨by decide +kernel, by decide +kernel, by decide +kernel⟩, by decide⟩
theorem ml_X5_210 : Cond.methodLink RX5 210 yX5_isRead ∈ TG := TG_in 797 (by decide +kernel) rfl
theorem im_X5_isRead : Cond.instanceMethod yX5_isRead ∈ TG := TG_in 799 (by decide +kernel) rfl
theorem co_X5_isRead : Cond.code yX5_isRead cX5_isRead 1 (some .boolean) ∈ TG := TG_in 800 (by decide +kernel) rfl
theorem mt_X5_isRead : Mt yX5_isRead cX5_isRead 1 (some .boolean) 0 := ⟨co_X5_isRead, ini_X5, ⟨by decide +kernel, by decide +kernel, by decide +kernel⟩, by decide⟩
theorem ml_X5_192 : Cond.methodLink RX5 192 yX5_blanks ∈ TG := TG_in 801 (by decide +kernel) rfl
theorem im_X5_blanks : Cond.instanceMethod yX5_blanks ∈ TG := TG_in 803 (by decide +kernel) rfl
theorem co_X5_blanks : Cond.code yX5_blanks cX5_blanks 1 none ∈ TG := TG_in 804 (by decide +kernel) rfl
theorem mt_X5_blanks : Mt yX5_blanks cX5_blanks 1 none 0 := ⟨co_X5_blanks, ini_X5, ⟨by decide +kernel, by decide +kernel, by decide +kernel⟩, by decide⟩
theorem ml_X5_186 : Cond.methodLink RX5 186 yX5_isAt ∈ TG := TG_in 805 (by decide +kernel) rfl
theorem im_X5_isAt : Cond.instanceMethod yX5_isAt ∈ TG := TG_in 807 (by decide +kernel) rfl
theorem co_X5_isAt : Cond.code yX5_isAt cX5_isAt 3 (some .boolean) ∈ TG := TG_in 808 (by decide +kernel) rfl
theorem mt_X5_isAt : Mt yX5_isAt cX5_isAt 3 (some .boolean) 2 := ⟨co_X5_isAt, ini_X5, ⟨by decide +kernel, by decide +kernel, by decide +kernel⟩, by decide⟩
theorem ml_X5_207 : Cond.methodLink RX5 207 yX5_takesOrder ∈ TG := TG_in 809 (by decide +kernel) rfl
theorem im_X5_takesOrder : Cond.instanceMethod yX5_takesOrder ∈ TG := TG_in 811 (by decide +kernel) rfl
theorem co_X5_takesOrder : Cond.code yX5_takesOrder cX5_takesOrder 3 (some .boolean) ∈ TG := TG_in 812 (by decide +kernel) rfl
theorem mt_X5_takesOrder : Mt yX5_takesOrder cX5_takesOrder 3 (some .boolean) 0 := ⟨co_X5_takesOrder, ini_X5, ⟨by decide +kernel, by decide +kernel, by decide +kernel⟩, by decide⟩
theorem ml_X5_198 : Cond.methodLink RX5 198 yX5_manyOf ∈ TG := TG_in 813 (by decide +kernel) rfl
theorem st_X5_manyOf : Cond.static yX5_manyOf ∈ TG := TG_in 814 (by decide +kernel) rfl
theorem co_X5_manyOf : Cond.code yX5_manyOf cX5_manyOf 1 (some .int) ∈ TG := TG_in 815 (by decide +kernel) rfl
theorem mt_X5_manyOf : Mt yX5_manyOf cX5_manyOf 1 (some .int) 1 := ⟨co_X5_manyOf, ini_X5, ⟨by decide +kernel, by decide +kernel, by decide +kernel⟩, by decide⟩
theorem ml_X5_195 : Cond.methodLink RX5 195 yX5_fails ∈ TG := TG_in 816 (by decide +kernel) rfl
theorem im_X5_fails : Cond.instanceMethod yX5_fails ∈ TG := TG_in 818 (by decide +kernel) rfl
theorem co_X5_fails : Cond.code yX5_fails cX5_fails 1 (some .boolean) ∈ TG := TG_in 819 (by decide +kernel) rfl
theorem mt_X5_fails : Mt yX5_fails cX5_fails 1 (some .boolean) 0 := ⟨co_X5_fails, ini_X5, ⟨by decide +kernel, by decide +kernel, by decide +kernel⟩, by decide⟩
theorem ml_X5_204 : Cond.methodLink RX5 204 yX5_takesNumber ∈ TG := TG_in 820 (by decide +kernel) rfl
theorem im_X5_takesNumber : Cond.instanceMethod yX5_takesNumber ∈ TG := TG_in 822 (by decide +kernel) rfl
theorem co_X5_takesNumber : Cond.code yX5_takesNumber cX5_takesNumber 4 (some .boolean) ∈ TG := TG_in 823 (by decide +kernel) rfl
theorem mt_X5_takesNumber : Mt yX5_takesNumber cX5_takesNumber 4 (some .boolean) 1 := ⟨co_X5_takesNumber, ini_X5, ⟨by decide +kernel, by decide +kernel, by decide +kernel⟩, by decide⟩
theorem ml_X5_213 : Cond.methodLink RX5 213 yX5_doneOne ∈ TG := TG_in 824 (by decide +kernel) rfl
theorem im_X5_doneOne : Cond.instanceMethod yX5_doneOne ∈ TG := TG_in 826 (by decide +kernel) rfl
theorem co_X5_doneOne : Cond.code yX5_doneOne cX5_doneOne 4 (some .int) ∈ TG := TG_in 827 (by decide +kernel) rfl
theorem mt_X5_doneOne : Mt yX5_doneOne cX5_doneOne 4 (some .int) 1 := ⟨co_X5_doneOne, ini_X5, ⟨by decide +kernel, by decide +kernel, by decide +kernel⟩, by decide⟩
theorem ml_L_117 : Cond.methodLink RL 117 yX5_told ∈ TG := TG_in 828 (by decide +kernel) rfl
theorem im_X5_told : Cond.instanceMethod yX5_told ∈ TG := TG_in 829 (by decide +kernel) rfl
theorem se_X5_told : Cond.selects yX5_told.cls yX5_told yX5_told ∈ TG := TG_in 830 (by decide +kernel) rfl
theorem co_X5_told : Cond.code yX5_told cX5_told 2 (some .int) ∈ TG := TG_in 831 (by decide +kernel) rfl
theorem mt_X5_told : Mt yX5_told cX5_told 2 (some .int) 1 := ⟨co_X5_told, ini_X5, ⟨by decide +kernel, by decide +kernel, by decide +kernel⟩, by decide⟩
theorem cn_X5_216 : Cond.constantLong RX5 216 (4) ∈ TG := TG_in 832 (by decide +kernel) rfl
theorem ml_X5_218 : Cond.methodLink RX5 218 yX5_toldAt ∈ TG := TG_in 833 (by decide +kernel) rfl
theorem im_X5_toldAt : Cond.instanceMethod yX5_toldAt ∈ TG := TG_in 835 (by decide +kernel) rfl
theorem co_X5_toldAt : Cond.code yX5_toldAt cX5_toldAt 2 (some .int) ∈ TG := TG_in 836 (by decide +kernel) rfl
theorem mt_X5_toldAt : Mt yX5_toldAt cX5_toldAt 2 (some .int) 1 := ⟨co_X5_toldAt, ini_X5, ⟨by decide +kernel, by decide +kernel, by decide +kernel⟩, by decide⟩
theorem ml_L_121 : Cond.methodLink RL 121 yX5_digest ∈ TG := TG_in 837 (by decide +kernel) rfl
theorem im_X5_digest : Cond.instanceMethod yX5_digest ∈ TG := TG_in 838 (by decide +kernel) rfl
theorem se_X5_digest : Cond.selects yX5_digest.cls yX5_digest yX5_digest ∈ TG := TG_in 839 (by decide +kernel) rfl
theorem co_X5_digest : Cond.code yX5_digest cX5_digest 3 (some .long) ∈ TG := TG_in 840 (by decide +kernel) rfl
theorem mt_X5_digest : Mt yX5_digest cX5_digest 3 (some .long) 0 := ⟨co_X5_digest, ini_X5, ⟨by decide +kernel, by decide +kernel, by decide +kernel⟩, by decide⟩
theorem cn_X5_227 : Cond.constantLong RX5 227 (2892) ∈ TG := TG_in 841 (by decide +kernel) rfl
theorem ml_X5_229 : Cond.methodLink RX5 229 yX5_mix ∈ TG := TG_in 842 (by decide +kernel) rfl
theorem im_X5_mix : Cond.instanceMethod yX5_mix ∈ TG := TG_in 844 (by decide +kernel) rfl
theorem co_X5_mix : Cond.code yX5_mix cX5_mix 3 none ∈ TG := TG_in 845 (by decide +kernel) rfl
theorem mt_X5_mix : Mt yX5_mix cX5_mix 3 none 1 := ⟨co_X5_mix, ini_X5, ⟨by decide +kernel, by decide +kernel, by decide +kernel⟩, by decide⟩
theorem cn_X5_221 : Cond.constantLong RX5 221 (31) ∈ TG := TG_in 846 (by decide +kernel) rfl
theorem ml_X5_233 : Cond.methodLink RX5 233 yX5_value ∈ TG := TG_in 847 (by decide +kernel) rfl
theorem cn_L_40 : Cond.constantLong RL 40 (4294967295) ∈ TG := TG_in 848 (by decide +kernel) rfl
theorem ly_X0_0 : u_lay RX0 TX0 0 ∈ TG := TG_in 152 (by decide +kernel) (by decide +kernel)
theorem ly_X0_1 : u_lay RX0 TX0 1 ∈ TG := TG_in 154 (by decide +kernel) (by decide +kernel)
theorem ly_X0_2 : u_lay RX0 TX0 2 ∈ TG := TG_in 156 (by decide +kernel) (by decide +kernel)
theorem ly_X0_3 : u_lay RX0 TX0 3 ∈ TG := TG_in 158 (by decide +kernel) (by decide +kernel)
theorem ly_X0_4 : u_lay RX0 TX0 4 ∈ TG := TG_in 160 (by decide +kernel) (by decide +kernel)
theorem ly_X0_5 : u_lay RX0 TX0 5 ∈ TG := TG_in 162 (by decide +kernel) (by decide +kernel)
theorem cls0 : ClsOk 0 RX0 TX0 6 tyX0 := ⟨rfl, List.forall_mem_cons.mpr ⟨ly_X0_0, List.forall_mem_cons.mpr ⟨ly_X0_1, List.forall_mem_cons.mpr ⟨ly_X0_2, List.forall_mem_cons.mpr ⟨ly_X0_3, List.forall_mem_cons.mpr ⟨ly_X0_4, List.forall_mem_cons.mpr ⟨ly_X0_5, fun _ h => absurd h List.not_mem_nil⟩⟩⟩⟩⟩⟩, tyX0_ok, nmX0⟩
theorem ly_X1_0 : u_lay RX1 TX1 0 ∈ TG := TG_in 113 (by decide +kernel) (by decide +kernel)
theorem ly_X1_1 : u_lay RX1 TX1 1 ∈ TG := TG_in 115 (by decide +kernel) (by decide +kernel)
theorem ly_X1_2 : u_lay RX1 TX1 2 ∈ TG := TG_in 117 (by decide +kernel) (by decide +kernel)
theorem cls1 : ClsOk 1 RX1 TX1 3 tyX1 := ⟨rfl, List.forall_mem_cons.mpr ⟨ly_X1_0, List.forall_mem_cons.mpr ⟨ly_X1_1, List.forall_mem_cons.mpr ⟨ly_X1_2, fun _ h => absurd h List.not_mem_nil⟩⟩⟩, tyX1_ok, nmX1⟩
theorem ly_X2_0 : u_lay RX2 TX2 0 ∈ TG := TG_in 130 (by decide +kernel) (by decide +kernel)
theorem ly_X2_1 : u_lay RX2 TX2 1 ∈ TG := TG_in 132 (by decide +kernel) (by decide +kernel)
theorem cls2 : ClsOk 2 RX2 TX2 2 tyX2 := ⟨rfl, List.forall_mem_cons.mpr ⟨ly_X2_0, List.forall_mem_cons.mpr ⟨ly_X2_1, fun _ h => absurd h List.not_mem_nil⟩⟩, tyX2_ok, nmX2⟩
theorem ly_X3_0 : u_lay RX3 TX3 0 ∈ TG := TG_in 82 (by decide +kernel) (by decide +kernel)
theorem ly_X3_1 : u_lay RX3 TX3 1 ∈ TG := TG_in 84 (by decide +kernel) (by decide +kernel)
theorem ly_X3_2 : u_lay RX3 TX3 2 ∈ TG := TG_in 86 (by decide +kernel) (by decide +kernel)
theorem ly_X3_3 : u_lay RX3 TX3 3 ∈ TG := TG_in 88 (by decide +kernel) (by decide +kernel)
theorem ly_X3_4 : u_lay RX3 TX3 4 ∈ TG := TG_in 90 (by decide +kernel) (by decide +kernel)
theorem ly_X3_5 : u_lay RX3 TX3 5 ∈ TG := TG_in 92 (by decide +kernel) (by decide +kernel)
theorem ly_X3_6 : u_lay RX3 TX3 6 ∈ TG := TG_in 94 (by decide +kernel) (by decide +kernel)
theorem ly_X3_7 : u_lay RX3 TX3 7 ∈ TG := TG_in 96 (by decide +kernel) (by decide +kernel)
theorem cls3 : ClsOk 3 RX3 TX3 8 tyX3 := ⟨rfl, List.forall_mem_cons.mpr ⟨ly_X3_0, List.forall_mem_cons.mpr ⟨ly_X3_1, List.forall_mem_cons.mpr ⟨ly_X3_2, List.forall_mem_cons.mpr ⟨ly_X3_3, List.forall_mem_cons.mpr ⟨ly_X3_4, List.forall_mem_cons.mpr ⟨ly_X3_5, List.forall_mem_cons.mpr ⟨ly_X3_6, List.forall_mem_cons.mpr ⟨ly_X3_7, fun _ h => absurd h List.not_mem_nil⟩⟩⟩⟩⟩⟩⟩⟩, tyX3_ok, nmX3⟩
theorem ly_X4_0 : u_lay RX4 TX4 0 ∈ TG := TG_in 173 (by decide +kernel) (by decide +kernel)
theorem ly_X4_1 : u_lay RX4 TX4 1 ∈ TG := TG_in 175 (by decide +kernel) (by decide +kernel)
theorem ly_X4_2 : u_lay RX4 TX4 2 ∈ TG := TG_in 177 (by decide +kernel) (by decide +kernel)
theorem ly_X4_3 : u_lay RX4 TX4 3 ∈ TG := TG_in 179 (by decide +kernel) (by decide +kernel)
theorem ly_X4_4 : u_lay RX4 TX4 4 ∈ TG := TG_in 181 (by decide +kernel) (by decide +kernel)
theorem ly_X4_5 : u_lay RX4 TX4 5 ∈ TG := TG_in 183 (by decide +kernel) (by decide +kernel)
theorem ly_X4_6 : u_lay RX4 TX4 6 ∈ TG := TG_in 185 (by decide +kernel) (by decide +kernel)
theorem ly_X4_7 : u_lay RX4 TX4 7 ∈ TG := TG_in 187 (by decide +kernel) (by decide +kernel)
theorem cls4 : ClsOk 4 RX4 TX4 8 tyX4 := ⟨rfl, List.forall_mem_cons.mpr ⟨ly_X4_0, List.forall_mem_cons.mpr ⟨ly_X4_1, List.forall_mem_cons.mpr ⟨ly_X4_2, List.forall_mem_cons.mpr ⟨ly_X4_3, List.forall_mem_cons.mpr ⟨ly_X4_4, List.forall_mem_cons.mpr ⟨ly_X4_5, List.forall_mem_cons.mpr ⟨ly_X4_6, List.forall_mem_cons.mpr ⟨ly_X4_7, fun _ h => absurd h List.not_mem_nil⟩⟩⟩⟩⟩⟩⟩⟩, tyX4_ok, nmX4⟩
theorem ly_X5_0 : u_lay RX5 TX5 0 ∈ TG := TG_in 534 (by decide +kernel) (by decide +kernel)
theorem ly_X5_1 : u_lay RX5 TX5 1 ∈ TG := TG_in 536 (by decide +kernel) (by decide +kernel)
theorem ly_X5_2 : u_lay RX5 TX5 2 ∈ TG := TG_in 538 (by decide +kernel) (by decide +kernel)
theorem ly_X5_3 : u_lay RX5 TX5 3 ∈ TG := TG_in 540 (by decide +kernel) (by decide +kernel)
theorem ly_X5_4 : u_lay RX5 TX5 4 ∈ TG := TG_in 542 (by decide +kernel) (by decide +kernel)
theorem ly_X5_5 : u_lay RX5 TX5 5 ∈ TG := TG_in 544 (by decide +kernel) (by decide +kernel)
theorem ly_X5_6 : u_lay RX5 TX5 6 ∈ TG := TG_in 546 (by decide +kernel) (by decide +kernel)
theorem ly_X5_7 : u_lay RX5 TX5 7 ∈ TG := TG_in 548 (by decide +kernel) (by decide +kernel)
theorem ly_X5_8 : u_lay RX5 TX5 8 ∈ TG := TG_in 550 (by decide +kernel) (by decide +kernel)
theorem ly_X5_9 : u_lay RX5 TX5 9 ∈ TG := TG_in 552 (by decide +kernel) (by decide +kernel)
theorem ly_X5_10 : u_lay RX5 TX5 10 ∈ TG := TG_in 554 (by decide +kernel) (by decide +kernel)
theorem ly_X5_11 : u_lay RX5 TX5 11 ∈ TG := TG_in 556 (by decide +kernel) (by decide +kernel)
theorem ly_X5_12 : u_lay RX5 TX5 12 ∈ TG := TG_in 558 (by decide +kernel) (by decide +kernel)
theorem ly_X5_13 : u_lay RX5 TX5 13 ∈ TG := TG_in 560 (by decide +kernel) (by decide +kernel)
theorem ly_X5_14 : u_lay RX5 TX5 14 ∈ TG := TG_in 562 (by decide +kernel) (by decide +kernel)
theorem ly_X5_15 : u_lay RX5 TX5 15 ∈ TG := TG_in 564 (by decide +kernel) (by decide +kernel)
theorem cls5 : ClsOk 5 RX5 TX5 16 tyX5 := ⟨rfl, List.forall_mem_cons.mpr ⟨ly_X5_0, List.forall_mem_cons.mpr ⟨ly_X5_1, List.forall_mem_cons.mpr ⟨ly_X5_2, List.forall_mem_cons.mpr ⟨ly_X5_3, List.forall_mem_cons.mpr ⟨ly_X5_4, List.forall_mem_cons.mpr ⟨ly_X5_5, List.forall_mem_cons.mpr ⟨ly_X5_6, List.forall_mem_cons.mpr ⟨ly_X5_7, List.forall_mem_cons.mpr ⟨ly_X5_8, List.forall_mem_cons.mpr ⟨ly_X5_9, List.forall_mem_cons.mpr ⟨ly_X5_10, List.forall_mem_cons.mpr ⟨ly_X5_11, List.forall_mem_cons.mpr ⟨ly_X5_12, List.forall_mem_cons.mpr ⟨ly_X5_13, List.forall_mem_cons.mpr ⟨ly_X5_14, List.forall_mem_cons.mpr ⟨ly_X5_15, fun _ h => absurd h List.not_mem_nil⟩⟩⟩⟩⟩⟩⟩⟩⟩⟩⟩⟩⟩⟩⟩⟩, tyX5_ok, nmX5⟩
theorem sh_0 : shapes[0]? = some (shapes[0]?.getD (.inl (0, 0))) := rfl
theorem sh_1 : shapes[1]? = some (shapes[1]?.getD (.inl (0, 0))) := rfl
theorem sh_2 : shapes[2]? = some (shapes[2]?.getD (.inl (0, 0))) := rfl
theorem sh_3 : shapes[3]? = some (shapes[3]?.getD (.inl (0, 0))) := rfl
theorem sh_4 : shapes[4]? = some (shapes[4]?.getD (.inl (0, 0))) := rfl
theorem sh_5 : shapes[5]? = some (shapes[5]?.getD (.inl (0, 0))) := rfl
theorem sh_6 : shapes[6]? = some (shapes[6]?.getD (.inl (0, 0))) := rfl
theorem sh_7 : shapes[7]? = some (shapes[7]?.getD (.inl (0, 0))) := rfl
theorem sh_8 : shapes[8]? = some (shapes[8]?.getD (.inl (0, 0))) := rfl
theorem sh_9 : shapes[9]? = some (shapes[9]?.getD (.inl (0, 0))) := rfl
theorem sh_10 : shapes[10]? = some (shapes[10]?.getD (.inl (0, 0))) := rfl
theorem sh_11 : shapes[11]? = some (shapes[11]?.getD (.inl (0, 0))) := rfl
theorem sh_12 : shapes[12]? = some (shapes[12]?.getD (.inl (0, 0))) := rfl
theorem sh_13 : shapes[13]? = some (shapes[13]?.getD (.inl (0, 0))) := rfl
theorem sh_14 : shapes[14]? = some (shapes[14]?.getD (.inl (0, 0))) := rfl
theorem sh_15 : shapes[15]? = some (shapes[15]?.getD (.inl (0, 0))) := rfl
theorem sh_16 : shapes[16]? = some (shapes[16]?.getD (.inl (0, 0))) := rfl
theorem sh_17 : shapes[17]? = some (shapes[17]?.getD (.inl (0, 0))) := rfl
theorem sh_18 : shapes[18]? = some (shapes[18]?.getD (.inl (0, 0))) := rfl
theorem sh_19 : shapes[19]? = some (shapes[19]?.getD (.inl (0, 0))) := rfl
theorem sh_20 : shapes[20]? = some (shapes[20]?.getD (.inl (0, 0))) := rfl
theorem sh_21 : shapes[21]? = some (shapes[21]?.getD (.inl (0, 0))) := rfl
theorem sh_22 : shapes[22]? = some (shapes[22]?.getD (.inl (0, 0))) := rfl
theorem sh_23 : shapes[23]? = some (shapes[23]?.getD (.inl (0, 0))) := rfl
theorem sh_24 : shapes[24]? = some (shapes[24]?.getD (.inl (0, 0))) := rfl
theorem sh_25 : shapes[25]? = some (shapes[25]?.getD (.inl (0, 0))) := rfl
theorem sh_26 : shapes[26]? = some (shapes[26]?.getD (.inl (0, 0))) := rfl
theorem sh_27 : shapes[27]? = some (shapes[27]?.getD (.inl (0, 0))) := rfl
theorem sh_28 : shapes[28]? = some (shapes[28]?.getD (.inl (0, 0))) := rfl
theorem sh_29 : shapes[29]? = some (shapes[29]?.getD (.inl (0, 0))) := rfl
theorem sh_30 : shapes[30]? = some (shapes[30]?.getD (.inl (0, 0))) := rfl
theorem sh_31 : shapes[31]? = some (shapes[31]?.getD (.inl (0, 0))) := rfl
theorem sh_32 : shapes[32]? = some (shapes[32]?.getD (.inl (0, 0))) := rfl
theorem sh_33 : shapes[33]? = some (shapes[33]?.getD (.inl (0, 0))) := rfl
theorem sh_34 : shapes[34]? = some (shapes[34]?.getD (.inl (0, 0))) := rfl
theorem sh_35 : shapes[35]? = some (shapes[35]?.getD (.inl (0, 0))) := rfl
theorem sh_36 : shapes[36]? = some (shapes[36]?.getD (.inl (0, 0))) := rfl
theorem sh_37 : shapes[37]? = some (shapes[37]?.getD (.inl (0, 0))) := rfl
theorem sh_38 : shapes[38]? = some (shapes[38]?.getD (.inl (0, 0))) := rfl
theorem sh_39 : shapes[39]? = some (shapes[39]?.getD (.inl (0, 0))) := rfl
theorem sh_40 : shapes[40]? = some (shapes[40]?.getD (.inl (0, 0))) := rfl
theorem sh_41 : shapes[41]? = some (shapes[41]?.getD (.inl (0, 0))) := rfl
theorem sh_42 : shapes[42]? = some (shapes[42]?.getD (.inl (0, 0))) := rfl
theorem sh_43 : shapes[43]? = some (shapes[43]?.getD (.inl (0, 0))) := rfl
theorem sh_44 : shapes[44]? = some (shapes[44]?.getD (.inl (0, 0))) := rfl
theorem sh_45 : shapes[45]? = some (shapes[45]?.getD (.inl (0, 0))) := rfl
theorem sh_46 : shapes[46]? = some (shapes[46]?.getD (.inl (0, 0))) := rfl
theorem sh_47 : shapes[47]? = some (shapes[47]?.getD (.inl (0, 0))) := rfl
theorem sh_48 : shapes[48]? = some (shapes[48]?.getD (.inl (0, 0))) := rfl
theorem sh_49 : shapes[49]? = some (shapes[49]?.getD (.inl (0, 0))) := rfl
theorem sh_50 : shapes[50]? = some (shapes[50]?.getD (.inl (0, 0))) := rfl
theorem sh_51 : shapes[51]? = some (shapes[51]?.getD (.inl (0, 0))) := rfl
theorem sh_52 : shapes[52]? = some (shapes[52]?.getD (.inl (0, 0))) := rfl
theorem sh_53 : shapes[53]? = some (shapes[53]?.getD (.inl (0, 0))) := rfl
theorem sh_54 : shapes[54]? = some (shapes[54]?.getD (.inl (0, 0))) := rfl
theorem nl_X4_9 : ((RX4, 9, yX3_init, "DrumCrank") : String × Nat × MethodName × String) ∈ TN := List.mem_of_getElem? (i := 0) rfl
theorem nl_X1_24 : ((RX1, 24, yX3_init, "DrumCrank") : String × Nat × MethodName × String) ∈ TN := List.mem_of_getElem? (i := 1) rfl
theorem nl_X4_28 : ((RX4, 28, yX2_init, "DrumCrank") : String × Nat × MethodName × String) ∈ TN := List.mem_of_getElem? (i := 2) rfl
theorem nl_X4_35 : ((RX4, 35, yX0_init, "DrumCrank") : String × Nat × MethodName × String) ∈ TN := List.mem_of_getElem? (i := 3) rfl
theorem nl_X3_45 : ((RX3, 45, yX4_within, "DrumCrank") : String × Nat × MethodName × String) ∈ TN := List.mem_of_getElem? (i := 4) rfl
theorem nl_X3_53 : ((RX3, 53, yX4_number, "DrumCrank") : String × Nat × MethodName × String) ∈ TN := List.mem_of_getElem? (i := 5) rfl
theorem nl_X3_57 : ((RX3, 57, yX4_putFigures, "DrumCrank") : String × Nat × MethodName × String) ∈ TN := List.mem_of_getElem? (i := 6) rfl
theorem nl_X3_85 : ((RX3, 85, yX4_canMultiply, "DrumCrank") : String × Nat × MethodName × String) ∈ TN := List.mem_of_getElem? (i := 7) rfl
theorem nl_X3_92 : ((RX3, 92, yX4_figuresToMultiply, "DrumCrank") : String × Nat × MethodName × String) ∈ TN := List.mem_of_getElem? (i := 8) rfl
theorem nl_X3_95 : ((RX3, 95, yX4_turnsForFigure, "DrumCrank") : String × Nat × MethodName × String) ∈ TN := List.mem_of_getElem? (i := 9) rfl
theorem nl_X3_99 : ((RX3, 99, yX4_leftBehindFigure, "DrumCrank") : String × Nat × MethodName × String) ∈ TN := List.mem_of_getElem? (i := 10) rfl
theorem nl_X2_21 : ((RX2, 21, yX4_within, "DrumCrank") : String × Nat × MethodName × String) ∈ TN := List.mem_of_getElem? (i := 11) rfl
theorem nl_X0_63 : ((RX0, 63, yX4_within, "DrumCrank") : String × Nat × MethodName × String) ∈ TN := List.mem_of_getElem? (i := 12) rfl
end
section
/-! further rules of the walk: numbers by nI, truth values, the long field -/
theorem Kt.of2 {w : GW} {y : MethodName} {cc : ByteArray} {n : Nat} {ret : Option FieldType} {d : Nat} {as : List Value} {sg : Sg} {tu : Int64} {r : Option Value} {sg' : Sg} {tu' : Int64} (own : String) (ho : y.cls = own) (L0 : List (Nat × Value)) (hn : plainName y.cls = true) (hL : lv_args 0 as = L0) (hlen : (lg_sl as).length ≤ n) (body : ∀ z, Cx z w cc n own d → Ends z w ret r sg' tu' → G z w n sg tu 0 L0 []) : Kt w y cc n ret d as sg tu r sg' tu' := by
  subst ho
  exact Kt.of hn hL hlen body
def bI (P : Prop) [Decidable P] : Int32 := if P then 1 else 0
theorem bI_t {P : Prop} [Decidable P] (h : P) : bI P = 1 := if_pos h
theorem bI_f {P : Prop} [Decidable P] (h : ¬ P) : bI P = 0 := if_neg h
theorem bI_nar {P : Prop} [Decidable P] : narrow .boolean (.int (bI P)) = .int (bI P) := by
  by_cases h : P
  · rw [bI_t h]; decide +kernel
  · rw [bI_f h]; decide +kernel
theorem Sq.rf {sg : Sg} : Sq sg sg := fun _ _ _ => rfl
theorem Sq.of {sg sg' : Sg} (h : sg = sg') : Sq sg sg' := fun _ _ _ => by rw [h]
theorem e_0 : shapes[0]? = some (.inr (4, [(1, 1), (1, 6), (1, 11), (1, 38), (1, 40), (0, 0), (0, 0), (0, 0)])) := rfl
theorem e_1 : shapes[1]? = some (.inr (3, [(1, 2), (1, 3), (1, 4), (1, 5), (0, 0), (0, 0), (0, 0), (0, 0)])) := rfl
theorem e_2 : shapes[2]? = some (.inl (0, 6)) := rfl
theorem e_3 : shapes[3]? = some (.inl (0, 6)) := rfl
theorem e_4 : shapes[4]? = some (.inl (0, 12)) := rfl
theorem e_5 : shapes[5]? = some (.inl (0, 7)) := rfl
theorem e_6 : shapes[6]? = some (.inr (3, [(1, 7), (1, 8), (1, 9), (1, 10), (0, 0), (0, 0), (0, 0), (0, 0)])) := rfl
theorem e_7 : shapes[7]? = some (.inl (0, 6)) := rfl
theorem e_8 : shapes[8]? = some (.inl (0, 6)) := rfl
theorem e_9 : shapes[9]? = some (.inl (0, 12)) := rfl
theorem e_10 : shapes[10]? = some (.inl (0, 7)) := rfl
theorem e_11 : shapes[11]? = some (.inr (1, [(1, 12), (0, 0), (0, 0)])) := rfl
theorem e_12 : shapes[12]? = some (.inl (2, 5)) := rfl
theorem e_13 : shapes[13]? = some (.inr (3, [(1, 14), (1, 15), (1, 16), (1, 17), (0, 0), (0, 0), (0, 0), (0, 0)])) := rfl
theorem e_14 : shapes[14]? = some (.inl (0, 6)) := rfl
theorem e_15 : shapes[15]? = some (.inl (0, 6)) := rfl
theorem e_16 : shapes[16]? = some (.inl (0, 12)) := rfl
theorem e_17 : shapes[17]? = some (.inl (0, 7)) := rfl
theorem e_18 : shapes[18]? = some (.inr (3, [(1, 19), (1, 20), (1, 21), (1, 22), (0, 0), (0, 0), (0, 0), (0, 0)])) := rfl
theorem e_19 : shapes[19]? = some (.inl (0, 6)) := rfl
theorem e_20 : shapes[20]? = some (.inl (0, 6)) := rfl
theorem e_21 : shapes[21]? = some (.inl (0, 12)) := rfl
theorem e_22 : shapes[22]? = some (.inl (0, 7)) := rfl
theorem e_23 : shapes[23]? = some (.inr (3, [(1, 24), (1, 25), (1, 26), (1, 27), (0, 0), (0, 0), (0, 0), (0, 0)])) := rfl
theorem e_24 : shapes[24]? = some (.inl (0, 6)) := rfl
theorem e_25 : shapes[25]? = some (.inl (0, 6)) := rfl
theorem e_26 : shapes[26]? = some (.inl (0, 12)) := rfl
theorem e_27 : shapes[27]? = some (.inl (0, 7)) := rfl
theorem e_28 : shapes[28]? = some (.inr (3, [(1, 29), (1, 30), (1, 31), (1, 32), (0, 0), (0, 0), (0, 0), (0, 0)])) := rfl
theorem e_29 : shapes[29]? = some (.inl (0, 6)) := rfl
theorem e_30 : shapes[30]? = some (.inl (0, 6)) := rfl
theorem e_31 : shapes[31]? = some (.inl (0, 12)) := rfl
theorem e_32 : shapes[32]? = some (.inl (0, 7)) := rfl
theorem e_33 : shapes[33]? = some (.inr (3, [(1, 34), (1, 35), (1, 36), (1, 37), (0, 0), (0, 0), (0, 0), (0, 0)])) := rfl
theorem e_34 : shapes[34]? = some (.inl (0, 6)) := rfl
theorem e_35 : shapes[35]? = some (.inl (0, 6)) := rfl
theorem e_36 : shapes[36]? = some (.inl (0, 12)) := rfl
theorem e_37 : shapes[37]? = some (.inl (0, 7)) := rfl
theorem e_38 : shapes[38]? = some (.inr (2, [(1, 39), (0, 0)])) := rfl
theorem e_39 : shapes[39]? = some (.inl (1, 120)) := rfl
theorem e_40 : shapes[40]? = some (.inr (0, [(1, 41), (1, 42), (1, 43), (0, 0), (0, 0), (0, 0)])) := rfl
theorem e_41 : shapes[41]? = some (.inl (0, 60)) := rfl
theorem e_42 : shapes[42]? = some (.inl (0, 60)) := rfl
theorem e_43 : shapes[43]? = some (.inl (0, 60)) := rfl
theorem e_44 : shapes[44]? = some (.inr (5, [(1, 45), (1, 46), (1, 47), (0, 0), (1, 48), (1, 49), (0, 0), (1, 50), (1, 51), (1, 52), (1, 53), (1, 54), (0, 0), (0, 0), (0, 0), (2, 0)])) := rfl
theorem e_45 : shapes[45]? = some (.inl (0, 35)) := rfl
theorem e_46 : shapes[46]? = some (.inl (0, 35)) := rfl
theorem e_47 : shapes[47]? = some (.inl (0, 175)) := rfl
theorem e_48 : shapes[48]? = some (.inl (0, 3)) := rfl
theorem e_49 : shapes[49]? = some (.inl (0, 120)) := rfl
theorem e_50 : shapes[50]? = some (.inl (0, 6)) := rfl
theorem e_51 : shapes[51]? = some (.inl (0, 12)) := rfl
theorem e_52 : shapes[52]? = some (.inl (0, 7)) := rfl
theorem e_53 : shapes[53]? = some (.inl (0, 60)) := rfl
theorem e_54 : shapes[54]? = some (.inl (0, 120)) := rfl
section GR2
variable {z : GZ} {w : GW} {cc : ByteArray} {nL : Nat} {own : String} {d : Nat} {sg : Sg} {tu : Int64} {pc : Nat} {L : List (Nat × Value)} {S : List Value}
theorem g_eq {sg' : Sg} {tu' : Int64} {L' : List (Nat × Value)} {S' : List Value} (h1 : sg = sg') (h2 : tu = tu') (h3 : L = L') (h4 : S = S') (k : G z w nL sg' tu' pc L' S') : G z w nL sg tu pc L S := by
  subst h1; subst h2; subst h3; subst h4; exact k
theorem g_sgE {sg' : Sg} (h : sg = sg') (k : G z w nL sg' tu pc L S) : G z w nL sg tu pc L S := by subst h; exact k
theorem g_tuE {tu' : Int64} (h : tu = tu') (k : G z w nL sg tu' pc L S) : G z w nL sg tu pc L S := by subst h; exact k
theorem g_ialdN (C : Cx z w cc nL own d) {k N : Nat} (j : Nat) (hs : shapes[k]? = some (.inl (0, N))) (hj : j < N) (hN : N < 2 ^ 31) (hdg : decode cc pc = .ok (.iaload, 1))
    (kk : G z w nL sg tu (pc + 1) L (.int (sg k j) :: S)) : G z w nL sg tu pc L (.int (nI j) :: .ref (ad w k) :: S) := by
  refine g_iald C hs (vp_in_nI hj hN) hdg ?_
  rw [nI_clamp (by omega)]
  exact kk
theorem g_baldN (C : Cx z w cc nL own d) {k N : Nat} (j : Nat) (hs : shapes[k]? = some (.inl (1, N))) (hj : j < N) (hN : N < 2 ^ 31) (hdg : decode cc pc = .ok (.baload, 1))
    (kk : G z w nL sg tu (pc + 1) L (.int (sg k j) :: S)) : G z w nL sg tu pc L (.int (nI j) :: .ref (ad w k) :: S) := by
  refine g_bald C hs (vp_in_nI hj hN) hdg ?_
  rw [nI_clamp (by omega)]
  exact kk
theorem g_aaldN (C : Cx z w cc nL own d) {k N : Nat} (j : Nat) (hs : shapes[k]? = some (.inl (2, N))) (hj : j < N) (hN : N < 2 ^ 31) (hdg : decode cc pc = .ok (.aaload, 1))
    (kk : G z w nL sg tu (pc + 1) L (.ref (ad w (13 + 5 * j)) :: S)) : G z w nL sg tu pc L (.int (nI j) :: .ref (ad w k) :: S) := by
  refine g_aald C hs (vp_in_nI hj hN) hdg ?_
  rw [nI_clamp (by omega)]
  exact kk
theorem g_iastN (C : Cx z w cc nL own d) {k N : Nat} (j : Nat) (hs : shapes[k]? = some (.inl (0, N))) {x : Int32} (hj : j < N) (hN : N < 2 ^ 31) (hdg : decode cc pc = .ok (.iastore, 1))
    (kk : G z w nL (us sg k (upd (sg k) j x)) tu (pc + 1) L S) : G z w nL sg tu pc L (.int x :: .int (nI j) :: .ref (ad w k) :: S) := by
  refine g_iast C hs (vp_in_nI hj hN) hdg ?_
  rw [nI_clamp (by omega)]
  exact kk
theorem g_bastN (C : Cx z w cc nL own d) {k N : Nat} (j : Nat) (hs : shapes[k]? = some (.inl (1, N))) {x : Int32} (hj : j < N) (hN : N < 2 ^ 31) (hdg : decode cc pc = .ok (.bastore, 1))
    (kk : G z w nL (us sg k (upd (sg k) j (vp_nar .byte x))) tu (pc + 1) L S) : G z w nL sg tu pc L (.int x :: .int (nI j) :: .ref (ad w k) :: S) := by
  refine g_bast C hs (vp_in_nI hj hN) hdg ?_
  rw [nI_clamp (by omega)]
  exact kk
theorem g_bif_eq (C : Cx z w cc nL own d) {P : Prop} [Decidable P] {off : Int} {tgt : Nat} (ht : (pc : Int) + off = (tgt : Int)) (hdg : decode cc pc = .ok (.ifCond .eq off, 3))
    (kt : ¬ P → G z w nL sg tu tgt L S) (kf : P → G z w nL sg tu (pc + 3) L S) : G z w nL sg tu pc L (.int (bI P) :: S) :=
  g_if_eq C ht hdg (fun h => kt fun q => by rw [bI_t q] at h; exact absurd h (by decide)) (fun h => by
    by_cases q : P
    · exact kf q
    · exact absurd (bI_f q) h)
theorem g_bif_ne (C : Cx z w cc nL own d) {P : Prop} [Decidable P] {off : Int} {tgt : Nat} (ht : (pc : Int) + off = (tgt : Int)) (hdg : decode cc pc = .ok (.ifCond .ne off, 3))
    (kt : P → G z w nL sg tu tgt L S) (kf : ¬ P → G z w nL sg tu (pc + 3) L S) : G z w nL sg tu pc L (.int (bI P) :: S) :=
  g_if_ne C ht hdg (fun h => by
    by_cases q : P
    · exact kt q
    · exact absurd (bI_f q) h) (fun h => kf fun q => by rw [bI_t q] at h; exact absurd h (by decide))
theorem g_icmpN_ge (C : Cx z w cc nL own d) (a b : Nat) (ha : a < 2 ^ 31) (hb : b < 2 ^ 31) {off : Int} {tgt : Nat} (ht : (pc : Int) + off = (tgt : Int)) (hdg : decode cc pc = .ok (.if_icmp .ge off, 3))
    (kt : b ≤ a → G z w nL sg tu tgt L S) (kf : a < b → G z w nL sg tu (pc + 3) L S) : G z w nL sg tu pc L (.int (nI b) :: .int (nI a) :: S) :=
  g_icmp_ge C ht hdg (fun h => kt ((nI_leI hb ha).mp h)) (fun h => kf (Nat.lt_of_not_le fun q => h ((nI_leI hb ha).mpr q)))
theorem g_icmpN_gt (C : Cx z w cc nL own d) (a b : Nat) (ha : a < 2 ^ 31) (hb : b < 2 ^ 31) {off : Int} {tgt : Nat} (ht : (pc : Int) + off = (tgt : Int)) (hdg : decode cc pc = .ok (.if_icmp .gt off, 3))
    (kt : b < a → G z w nL sg tu tgt L S) (kf : a ≤ b → G z w nL sg tu (pc + 3) L S) : G z w nL sg tu pc L (.int (nI b) :: .int (nI a) :: S) :=
  g_icmp_gt C ht hdg (fun h => kt ((nI_ltI hb ha).mp h)) (fun h => kf (Nat.le_of_not_lt fun q => h ((nI_ltI hb ha).mpr q)))
theorem g_icmpN_lt (C : Cx z w cc nL own d) (a b : Nat) (ha : a < 2 ^ 31) (hb : b < 2 ^ 31) {off : Int} {tgt : Nat} (ht : (pc : Int) + off = (tgt : Int)) (hdg : decode cc pc = .ok (.if_icmp .lt off, 3))
    (kt : a < b → G z w nL sg tu tgt L S) (kf : b ≤ a → G z w nL sg tu (pc + 3) L S) : G z w nL sg tu pc L (.int (nI b) :: .int (nI a) :: S) :=
  g_icmp_lt C ht hdg (fun h => kt ((nI_ltI ha hb).mp h)) (fun h => kf (Nat.le_of_not_lt fun q => h ((nI_ltI ha hb).mpr q)))
theorem g_icmpN_le (C : Cx z w cc nL own d) (a b : Nat) (ha : a < 2 ^ 31) (hb : b < 2 ^ 31) {off : Int} {tgt : Nat} (ht : (pc : Int) + off = (tgt : Int)) (hdg : decode cc pc = .ok (.if_icmp .le off, 3))
    (kt : a ≤ b → G z w nL sg tu tgt L S) (kf : b < a → G z w nL sg tu (pc + 3) L S) : G z w nL sg tu pc L (.int (nI b) :: .int (nI a) :: S) :=
  g_icmp_le C ht hdg (fun h => kt ((nI_leI ha hb).mp h)) (fun h => kf (Nat.lt_of_not_le fun q => h ((nI_leI ha hb).mpr q)))
theorem g_icmpN_eq (C : Cx z w cc nL own d) (a b : Nat) (ha : a < 2 ^ 31) (hb : b < 2 ^ 31) {off : Int} {tgt : Nat} (ht : (pc : Int) + off = (tgt : Int)) (hdg : decode cc pc = .ok (.if_icmp .eq off, 3))
    (kt : a = b → G z w nL sg tu tgt L S) (kf : ¬ a = b → G z w nL sg tu (pc + 3) L S) : G z w nL sg tu pc L (.int (nI b) :: .int (nI a) :: S) :=
  g_icmp_eq C ht hdg (fun h => kt ((nI_eq ha hb).mp h)) (fun h => kf fun q => h ((nI_eq ha hb).mpr q))
theorem g_icmpN_ne (C : Cx z w cc nL own d) (a b : Nat) (ha : a < 2 ^ 31) (hb : b < 2 ^ 31) {off : Int} {tgt : Nat} (ht : (pc : Int) + off = (tgt : Int)) (hdg : decode cc pc = .ok (.if_icmp .ne off, 3))
    (kt : ¬ a = b → G z w nL sg tu tgt L S) (kf : a = b → G z w nL sg tu (pc + 3) L S) : G z w nL sg tu pc L (.int (nI b) :: .int (nI a) :: S) :=
  g_icmp_ne C ht hdg (fun h => kt fun q => h ((nI_eq ha hb).mpr q)) (fun h => kf ((nI_eq ha hb).mp h))
theorem g_ifN_eq (C : Cx z w cc nL own d) (a : Nat) (ha : a < 2 ^ 31) {off : Int} {tgt : Nat} (ht : (pc : Int) + off = (tgt : Int)) (hdg : decode cc pc = .ok (.ifCond .eq off, 3))
    (kt : a = 0 → G z w nL sg tu tgt L S) (kf : ¬ a = 0 → G z w nL sg tu (pc + 3) L S) : G z w nL sg tu pc L (.int (nI a) :: S) :=
  g_if_eq C ht hdg (fun h => kt ((nI_eq ha (by omega)).mp (h.trans nI_0.symm))) (fun h => kf fun q => h (by rw [q]; exact nI_0))
theorem g_ifN_ne (C : Cx z w cc nL own d) (a : Nat) (ha : a < 2 ^ 31) {off : Int} {tgt : Nat} (ht : (pc : Int) + off = (tgt : Int)) (hdg : decode cc pc = .ok (.ifCond .ne off, 3))
    (kt : ¬ a = 0 → G z w nL sg tu tgt L S) (kf : a = 0 → G z w nL sg tu (pc + 3) L S) : G z w nL sg tu pc L (.int (nI a) :: S) :=
  g_if_ne C ht hdg (fun h => kt fun q => h (by rw [q]; exact nI_0)) (fun h => kf ((nI_eq ha (by omega)).mp (h.trans nI_0.symm)))
theorem mapIdx_setL {w : GW} {f : Nat → Int32} {tu x : Int64} {fs : List (Nat × Nat)} {j q : Nat} (hf : fs[j]? = some (2, q)) (ho : ∀ i p, i ≠ j → fs[i]? = some p → p.1 = 0 ∨ p.1 = 1) : (fs.mapIdx (fun j q => va1 w (f j) tu q)).set j (.long x) = fs.mapIdx (fun i q => va1 w (f i) x q) := by
  apply List.ext_getElem?
  intro i
  have hl : j < fs.length := (List.getElem?_eq_some_iff.mp hf).1
  by_cases hi : i = j
  · subst hi
    rw [List.getElem?_set_self (by simpa using hl), List.getElem?_mapIdx, hf]
    simp [va1]
  · rw [List.getElem?_set_ne (Ne.symm hi), List.getElem?_mapIdx, List.getElem?_mapIdx]
    cases hp : fs[i]? with
    | none => rfl
    | some p =>
      rcases ho i p hi hp with h | h <;> simp [va1, h]
/-- no cell but the reference's object holds a long -/
theorem ce_long {w : GW} {sg : Sg} {tu tu' : Int64} (j : Nat) (sh : Shp) (hj : j ≠ 44) (hs : shapes[j]? = some sh) : ce w sg tu' j sh = ce w sg tu j sh := by
  have h0 : ∀ i, i < 55 → i ≠ 44 → ∀ x, shapes[i]? = some x → (match x with | .inl _ => true | .inr (_, fs) => fs.all (fun p => p.1 == 0 || p.1 == 1)) = true := by decide +kernel
  have h1 := h0 j (shapes_lt hs) hj sh hs
  match sh, h1 with
  | .inl (0, n), _ => rfl
  | .inl (1, n), _ => rfl
  | .inl (_ + 2, n), _ => rfl
  | .inr (ci, fs), h1 =>
    show Sum.inr (ci, _) = Sum.inr (ci, _)
    congr 2
    apply List.ext_getElem?
    intro i
    rw [List.getElem?_mapIdx, List.getElem?_mapIdx]
    cases hp : fs[i]? with
    | none => rfl
    | some p =>
      have h2 := List.all_eq_true.mp h1 p (List.mem_of_getElem? hp)
      simp only [Bool.or_eq_true, beq_iff_eq] at h2
      rcases h2 with h | h <;> simp [va1, h]
theorem g_putL (C : Cx z w cc nL own d) (hlink : Cond.fieldLink own 223 (TX5 15).1 (TX5 15).2.1 (TX5 15).2.2.1 ∈ TG) (hdg : decode cc pc = .ok (.putfield 223, 3)) {x : Int64}
    (kk : G z w nL sg x (pc + 3) L S) : G z w nL sg tu pc L (.long x :: .ref (ad w 44) :: S) := by
  obtain ⟨p, l, e, R, s, m, args, below, meth, c, cells, slots, Q⟩ := z
  obtain ⟨-, hx, hb, hml, hown, hts, hK, -⟩ := C
  have hc := cls5
  have hs := e_44
  refine fun H ls locs hH hS hl0 => va_put (fs := List.mapIdx (fun j q => va1 w (sg 44 j) tu q) [(1, 45), (1, 46), (1, 47), (0, 0), (1, 48), (1, 49), (0, 0), (1, 50), (1, 51), (1, 52), (1, 53), (1, 54), (0, 0), (0, 0), (0, 0), (2, 0)]) hx hb hts hc.2.1 tyX5 hc.2.2.1 hc.2.2.2 hown hK.1 hH (wl_D hK.2.2) hS 44 (wl_get hs) hc.1 15 (by decide) (hts _ hlink) (fun _ h => h) rfl (ty := .long) (by decide +kernel) rfl rfl (by simp) hdg (fun H1 locs1 hP1 _ hS1 => kk H1 ls locs1 ?_ hS1 hl0)
  rw [mapIdx_setL (x := x) (j := 15) (q := 0) rfl (by
    intro i p hi hp
    have h0 : ∀ i, i < 16 → i ≠ 15 → ∀ x, ([(1, 45), (1, 46), (1, 47), (0, 0), (1, 48), (1, 49), (0, 0), (1, 50), (1, 51), (1, 52), (1, 53), (1, 54), (0, 0), (0, 0), (0, 0), (2, 0)] : List (Nat × Nat))[i]? = some x → x.1 = 0 ∨ x.1 = 1 := by decide +kernel
    exact h0 i (List.getElem?_eq_some_iff.mp hp).1 hi p hp), wl_set (sg' := sg) (tu' := x) (e := .inr (5, List.mapIdx (fun i q => va1 w (sg 44 i) x q) [(1, 45), (1, 46), (1, 47), (0, 0), (1, 48), (1, 49), (0, 0), (1, 50), (1, 51), (1, 52), (1, 53), (1, 54), (0, 0), (0, 0), (0, 0), (2, 0)])) hs rfl (fun i sh hi hsi => ce_long i sh hi hsi)] at hP1
  exact hP1
end GR2
end
section
/-! calls with their answers laid out; long comparisons -/
theorem lg_lt {x y : Int64} : lg_cmp x y < 0 ↔ x < y := by
  unfold lg_cmp
  by_cases h1 : x > y
  · rw [if_pos h1]
    have h1' : y < x := h1
    refine ⟨fun h => absurd h (by decide), fun h => ?_⟩
    rw [Int64.lt_iff_toInt_lt] at h h1'
    omega
  · rw [if_neg h1]
    by_cases h2 : x = y
    · rw [if_pos h2, h2]
      refine ⟨fun h => absurd h (by decide), fun h => ?_⟩
      rw [Int64.lt_iff_toInt_lt] at h
      omega
    · rw [if_neg h2]
      refine ⟨fun _ => ?_, fun _ => by decide⟩
      have h1' : ¬ y < x := h1
      rw [Int64.lt_iff_toInt_lt] at h1' ⊢
      have h3 : x.toInt ≠ y.toInt := fun q => h2 (Int64.toInt_inj.mp q)
      omega
theorem lg_gt {x y : Int64} : 0 < lg_cmp x y ↔ y < x := by
  unfold lg_cmp
  by_cases h1 : x > y
  · rw [if_pos h1]
    exact ⟨fun _ => h1, fun _ => by decide⟩
  · rw [if_neg h1]
    by_cases h2 : x = y
    · rw [if_pos h2]
      exact ⟨fun h => absurd h (by decide), fun h => absurd h h1⟩
    · rw [if_neg h2]
      exact ⟨fun h => absurd h (by decide), fun h => absurd h h1⟩
theorem lg_eq {x y : Int64} : lg_cmp x y = 0 ↔ x = y := by
  unfold lg_cmp
  by_cases h1 : x > y
  · rw [if_pos h1]
    refine ⟨fun h => absurd h (by decide), fun h => ?_⟩
    rw [h] at h1
    have h1' : y < y := h1
    rw [Int64.lt_iff_toInt_lt] at h1'
    omega
  · rw [if_neg h1]
    by_cases h2 : x = y
    · rw [if_pos h2]
      exact ⟨fun _ => h2, fun _ => rfl⟩
    · rw [if_neg h2]
      exact ⟨fun h => absurd h (by decide), fun h => absurd h h2⟩
section GR3
variable {z : GZ} {w : GW} {cc : ByteArray} {nL : Nat} {own : String} {d : Nat} {sg : Sg} {tu : Int64} {pc : Nat} {L : List (Nat × Value)} {S : List Value}
variable {y : MethodName} {bc : ByteArray} {n np d' idx : Nat} {ret : Option FieldType} {As : List Value} {v : Value} {sg' : Sg} {tu' : Int64}
theorem g_lif_lt (C : Cx z w cc nL own d) {a b : Int64} {off : Int} {tgt : Nat} (ht : (pc : Int) + off = (tgt : Int)) (hdg : decode cc pc = .ok (.ifCond .lt off, 3))
    (kt : a < b → G z w nL sg tu tgt L S) (kf : ¬ a < b → G z w nL sg tu (pc + 3) L S) : G z w nL sg tu pc L (.int (lg_cmp a b) :: S) := g_if_lt C ht hdg (fun h => kt (lg_lt.mp h)) (fun h => kf fun q => h (lg_lt.mpr q))
theorem g_lif_gt (C : Cx z w cc nL own d) {a b : Int64} {off : Int} {tgt : Nat} (ht : (pc : Int) + off = (tgt : Int)) (hdg : decode cc pc = .ok (.ifCond .gt off, 3))
    (kt : b < a → G z w nL sg tu tgt L S) (kf : ¬ b < a → G z w nL sg tu (pc + 3) L S) : G z w nL sg tu pc L (.int (lg_cmp a b) :: S) := g_if_gt C ht hdg (fun h => kt (lg_gt.mp h)) (fun h => kf fun q => h (lg_gt.mpr q))
theorem g_lif_eq (C : Cx z w cc nL own d) {a b : Int64} {off : Int} {tgt : Nat} (ht : (pc : Int) + off = (tgt : Int)) (hdg : decode cc pc = .ok (.ifCond .eq off, 3))
    (kt : a = b → G z w nL sg tu tgt L S) (kf : ¬ a = b → G z w nL sg tu (pc + 3) L S) : G z w nL sg tu pc L (.int (lg_cmp a b) :: S) := g_if_eq C ht hdg (fun h => kt (lg_eq.mp h)) (fun h => kf fun q => h (lg_eq.mpr q))
theorem g_lif_ne (C : Cx z w cc nL own d) {a b : Int64} {off : Int} {tgt : Nat} (ht : (pc : Int) + off = (tgt : Int)) (hdg : decode cc pc = .ok (.ifCond .ne off, 3))
    (kt : ¬ a = b → G z w nL sg tu tgt L S) (kf : a = b → G z w nL sg tu (pc + 3) L S) : G z w nL sg tu pc L (.int (lg_cmp a b) :: S) := g_if_ne C ht hdg (fun h => kt fun q => h (lg_eq.mpr q)) (fun h => kf (lg_eq.mp h))
theorem g_callS1 (S : List Value) (C : Cx z w cc nL own d) (hM : Kt w y bc n ret d' As sg tu (some v) sg' tu') (hm : Mt y bc n ret np) (hlink : Cond.methodLink own idx y ∈ TG) (hst : Cond.static y ∈ TG) (hd : d' + 1 ≤ d) (hn : As.length = np) (hrest : (S.map fun v => v.category).sum ≤ 8) (hdg : decode cc pc = .ok (.invokestatic idx, 3))
    (k : G z w nL sg' tu' (pc + 3) L (v :: S)) : G z w nL sg tu pc L (As.reverse ++ S) := g_callS C hM hm hlink hst hd hn hrest hdg k
theorem g_callS0 (S : List Value) (C : Cx z w cc nL own d) (hM : Kt w y bc n ret d' As sg tu none sg' tu') (hm : Mt y bc n ret np) (hlink : Cond.methodLink own idx y ∈ TG) (hst : Cond.static y ∈ TG) (hd : d' + 1 ≤ d) (hn : As.length = np) (hrest : (S.map fun v => v.category).sum ≤ 8) (hdg : decode cc pc = .ok (.invokestatic idx, 3))
    (k : G z w nL sg' tu' (pc + 3) L S) : G z w nL sg tu pc L (As.reverse ++ S) := g_callS C hM hm hlink hst hd hn hrest hdg k
theorem g_callN1 (S : List Value) (C : Cx z w cc nL own d) (hM : Kt w y bc n ret d' As sg tu (some v) sg' tu') (hm : Mt y bc n ret np) {host : String} (hlink : (own, idx, y, host) ∈ TN) (hst : Cond.static y ∈ TG) (hd : d' + 1 ≤ d) (hn : As.length = np) (hrest : (S.map fun v => v.category).sum ≤ 8) (hdg : decode cc pc = .ok (.invokestatic idx, 3))
    (k : G z w nL sg' tu' (pc + 3) L (v :: S)) : G z w nL sg tu pc L (As.reverse ++ S) := g_callSN C hM hm hlink hst hd hn hrest hdg k
theorem g_callV1 (S : List Value) (C : Cx z w cc nL own d) {q ci N : Nat} {fs : List (Nat × Nat)} {T : u_T} (hM : Kt w y bc n ret d' (.ref (ad w q) :: As) sg tu (some v) sg' tu') (hm : Mt y bc n ret np) (hq : shapes[q]? = some (.inr (ci, fs))) (hci : vwCl[ci]? = some (y.cls, T, N)) (hlink : Cond.methodLink own idx y ∈ TG) (hin : Cond.instanceMethod y ∈ TG) (hse : Cond.selects y.cls y y ∈ TG) (hd : d' + 1 ≤ d) (hn : As.length = np) (hrest : (S.map fun v => v.category).sum ≤ 8) (hdg : decode cc pc = .ok (.invokevirtual idx, 3))
    (k : G z w nL sg' tu' (pc + 3) L (v :: S)) : G z w nL sg tu pc L (As.reverse ++ .ref (ad w q) :: S) := g_callV C hM hm hq hci hlink hin hse hd hn hrest hdg k
theorem g_callV0 (S : List Value) (C : Cx z w cc nL own d) {q ci N : Nat} {fs : List (Nat × Nat)} {T : u_T} (hM : Kt w y bc n ret d' (.ref (ad w q) :: As) sg tu none sg' tu') (hm : Mt y bc n ret np) (hq : shapes[q]? = some (.inr (ci, fs))) (hci : vwCl[ci]? = some (y.cls, T, N)) (hlink : Cond.methodLink own idx y ∈ TG) (hin : Cond.instanceMethod y ∈ TG) (hse : Cond.selects y.cls y y ∈ TG) (hd : d' + 1 ≤ d) (hn : As.length = np) (hrest : (S.map fun v => v.category).sum ≤ 8) (hdg : decode cc pc = .ok (.invokevirtual idx, 3))
    (k : G z w nL sg' tu' (pc + 3) L S) : G z w nL sg tu pc L (As.reverse ++ .ref (ad w q) :: S) := g_callV C hM hm hq hci hlink hin hse hd hn hrest hdg k
end GR3
end
section
/-! words for the contracts: ranges, rows -/
theorem in_ok {j n : Nat} (h : j ≤ n) (hn : n < 2 ^ 31) : (0 : Int64) ≤ Int32.toInt64 (nI j) ∧ Int32.toInt64 (nI j) ≤ lN n := by
  rw [nI_l (by omega)]
  exact ⟨(pk_lLE (a := 0) (by omega) (by omega)).mpr (Nat.zero_le _), (pk_lLE (by omega) (by omega)).mpr h⟩
theorem in_ok1 {j n : Nat} (h0 : 1 ≤ j) (h : j ≤ n) (hn : n < 2 ^ 31) : (1 : Int64) ≤ Int32.toInt64 (nI j) ∧ Int32.toInt64 (nI j) ≤ lN n := by
  rw [nI_l (by omega)]
  exact ⟨(pk_lLE (a := 1) (by omega) (by omega)).mpr h0, (pk_lLE (by omega) (by omega)).mpr h⟩
theorem in_of {x : Int32} {n : Nat} (hn : n < 2 ^ 31) (h : (0 : Int64) ≤ Int32.toInt64 x ∧ Int32.toInt64 x ≤ lN n) : ∃ j, j ≤ n ∧ x = nI j := by
  obtain ⟨h1, h2⟩ := h
  rw [Int64.le_iff_toInt_le] at h1 h2
  have h3 : (Int32.toInt64 x).toInt = x.toInt := Int32.toInt_toInt64 x
  rw [h3] at h1 h2
  rw [pk_lT (by omega)] at h2
  have h0 : (0 : Int64).toInt = 0 := by decide
  rw [h0] at h1
  refine ⟨x.toInt.toNat, by omega, ?_⟩
  apply Int32.toInt_inj.mp
  rw [nI_toInt (by omega)]
  omega
theorem in_of1 {x : Int32} {n : Nat} (hn : n < 2 ^ 31) (h : (1 : Int64) ≤ Int32.toInt64 x ∧ Int32.toInt64 x ≤ lN n) : ∃ j, 1 ≤ j ∧ j ≤ n ∧ x = nI j := by
  obtain ⟨j, hj, rfl⟩ := in_of hn ⟨by
    have h1 := h.1
    rw [Int64.le_iff_toInt_le] at h1 ⊢
    have e0 : (0 : Int64).toInt = 0 := by decide
    have e1 : (1 : Int64).toInt = 1 := by decide
    rw [e1] at h1
    rw [e0]
    omega, h.2⟩
  refine ⟨j, ?_, hj, rfl⟩
  have h1 := h.1
  rw [nI_l (by omega)] at h1
  exact (pk_lLE (a := 1) (by omega) (by omega)).mp h1
theorem upd_same {f : Nat → Int32} {k : Nat} {x : Int32} : upd f k x k = x := if_pos rfl
theorem upd_ne {f : Nat → Int32} {k j : Nat} {x : Int32} (h : j ≠ k) : upd f k x j = f j := if_neg h
/-- two heaps that differ at most in one cell -/
theorem Sq.us {sg : Sg} {k : Nat} {f g : Nat → Int32} (h : ∀ j, j < ln k → f j = g j) : Sq (us sg k f) (us sg k g) := by
  intro i j hj
  by_cases hi : i = k
  · subst hi; rw [us_same, us_same]; exact h j hj
  · rw [us_ne hi, us_ne hi]
theorem Sq.trans {a b c : Sg} (h1 : Sq a b) (h2 : Sq b c) : Sq a c := fun k j hj => (h1 k j hj).trans (h2 k j hj)
theorem Sq.symm {a b : Sg} (h1 : Sq a b) : Sq b a := fun k j hj => (h1 k j hj).symm
theorem us_us {sg : Sg} {k : Nat} {f g : Nat → Int32} : us (us sg k f) k g = us sg k g := by
  funext i
  by_cases h : i = k
  · subst h; rw [us_same, us_same]
  · rw [us_ne h, us_ne h, us_ne h]
theorem us_id {sg : Sg} {k : Nat} : us sg k (sg k) = sg := by
  funext i
  by_cases h : i = k
  · subst h; rw [us_same]
  · rw [us_ne h]
theorem us_comm {sg : Sg} {k l : Nat} {f g : Nat → Int32} (h : k ≠ l) : us (us sg k f) l g = us (us sg l g) k f := by
  funext i
  by_cases h1 : i = k
  · subst h1; rw [us_ne h, us_same, us_same]
  · by_cases h2 : i = l
    · subst h2; rw [us_same, us_ne h1, us_same]
    · rw [us_ne h2, us_ne h1, us_ne h1, us_ne h2]
/-- a row whose places from b on, i of them, are new -/
def fw (b : Nat) (new old : Nat → Int32) (i : Nat) : Nat → Int32 := fun j => if b ≤ j ∧ j < b + i then new j else old j
theorem fw_0 {b : Nat} {new old : Nat → Int32} : fw b new old 0 = old := by
  funext j
  unfold fw
  rw [if_neg (by omega)]
theorem fw_s {b i : Nat} {new old : Nat → Int32} {x : Int32} (h : x = new (b + i)) : upd (fw b new old i) (b + i) x = fw b new old (i + 1) := by
  subst h
  funext j
  unfold fw upd
  by_cases h1 : j = b + i
  · subst h1; rw [if_pos rfl, if_pos (by omega)]
  · rw [if_neg h1]
    show (if b ≤ j ∧ j < b + i then new j else old j) = if b ≤ j ∧ j < b + (i + 1) then new j else old j
    by_cases h2 : b ≤ j ∧ j < b + i
    · rw [if_pos h2, if_pos (by omega)]
    · rw [if_neg h2, if_neg (by omega)]
theorem fw_s0 {i : Nat} {new old : Nat → Int32} {x : Int32} (h : x = new i) : upd (fw 0 new old i) i x = fw 0 new old (i + 1) := by
  have h1 := fw_s (b := 0) (i := i) (new := new) (old := old) (x := x) (by rw [Nat.zero_add]; exact h)
  rwa [Nat.zero_add] at h1
theorem fw_in {b i j : Nat} {new old : Nat → Int32} (h : b ≤ j ∧ j < b + i) : fw b new old i j = new j := if_pos h
theorem fw_out {b i j : Nat} {new old : Nat → Int32} (h : ¬ (b ≤ j ∧ j < b + i)) : fw b new old i j = old j := if_neg h
/-! sums that the loops make, as they make them -/
def whX (wn : Int32) : Nat → Int32
  | 0 => nI 0
  | n + 1 => whX wn n + (if n = 0 then nI 0 else ((wn >>> (nI n &&& 31)) &&& nI 1) ^^^ nI 1)
theorem whX_s {wn : Int32} {n : Nat} (h : 1 ≤ n) : whX wn (n + 1) = whX wn n + (((wn >>> (nI n &&& 31)) &&& nI 1) ^^^ nI 1) := by
  show whX wn n + (if n = 0 then nI 0 else _) = _
  rw [if_neg (by omega)]
theorem whX_1 {wn : Int32} : whX wn 1 = nI 0 := rfl
def wmX (wn : Int32) : Nat → Int32
  | 0 => nI 0
  | n + 1 => wmX wn n + (if n = 0 then nI 0 else (wn >>> (nI n &&& 31)) &&& nI 1)
theorem wmX_s {wn : Int32} {n : Nat} (h : 1 ≤ n) : wmX wn (n + 1) = wmX wn n + ((wn >>> (nI n &&& 31)) &&& nI 1) := by
  show wmX wn n + (if n = 0 then nI 0 else _) = _
  rw [if_neg (by omega)]
theorem wmX_1 {wn : Int32} : wmX wn 1 = nI 0 := rfl
/-- how many of n places from b on are not as 'g' says -/
def czX (f g : Nat → Int32) (b : Nat) : Nat → Int32
  | 0 => nI 0
  | n + 1 => czX f g b n + (if f (b + n) = g n then nI 0 else nI 1)
theorem czX_t {f g : Nat → Int32} {b n : Nat} (h : f (b + n) = g n) : czX f g b (n + 1) = czX f g b n + nI 0 := by
  show czX f g b n + (if f (b + n) = g n then nI 0 else nI 1) = _
  rw [if_pos h]
theorem czX_f {f g : Nat → Int32} {b n : Nat} (h : ¬ f (b + n) = g n) : czX f g b (n + 1) = czX f g b n + nI 1 := by
  show czX f g b n + (if f (b + n) = g n then nI 0 else nI 1) = _
  rw [if_neg h]
/-- places b .. b + r of a row as a number's figures, above what stands there already -/
def nbX (f : Nat → Int32) (b : Nat) : Nat → Int32 → Int32
  | 0, v => v
  | r + 1, v => nbX f b r (nI 10 * v + f (b + r))
def vlX (f : Nat → Int32) (b : Nat) : Nat → Int64 → Int64
  | 0, v => v
  | r + 1, v => vlX f b r (10 * v + Int32.toInt64 (f (b + r)))
/-- the states, one more laid on them -/
def pastP (past aside : Nat → Int32) (st : Nat) : Nat → Int32 := fun k => if st = 5 then (if k < 140 then past (k + 35) else aside (k - 140)) else if 35 * st ≤ k ∧ k < 35 * st + 35 then aside (k - 35 * st) else past k
def stP (st : Nat) : Nat := if st = 5 then 5 else st + 1
theorem m2_lt {a : Nat} (ha : a < 2 ^ 31) : (-2 : Int32) < nI a := by
  rw [Int32.lt_iff_toInt_lt, nI_toInt ha]
  have h : (-2 : Int32).toInt = -2 := by decide
  omega
end
section
set_option maxRecDepth 100000 in
set_option maxHeartbeats 4000000 in
theorem c_X5_in (w : GW) (tu : Int64) (sg : Sg) (a : Int64) (b : Int64) (c : Int64) : Kt w yX5_in cX5_in 6 (some .boolean) 0 [.long a, .long b, .long c] sg tu (some (.int (bI (b ≤ a ∧ a ≤ c)))) sg tu := by
  refine Kt.of2 RX5 rfl [(0, .long a), (2, .long b), (4, .long c)] (by decide) rfl (Nat.le_of_ble_eq_true rfl) (fun z C E => ?_)
  refine g_lload_n C 0 rfl rfl dX5_in_0 ?_
  refine g_lload_n C 1 rfl rfl dX5_in_1 ?_
  refine g_lcmp C dX5_in_2 ?_
  refine g_lif_lt C (tgt := 17) (by decide) dX5_in_3 (fun h3 => ?_) (fun h3 => ?_)
  ·
    refine g_iconst C (v := (nI 0)) (by decide) dX5_in_17 ?_
    exact g_zret C E dX5_in_18 (by decide +kernel) (bI_f (fun q => by have := Int64.not_le.mpr h3; exact this q.1)).symm Sq.rf rfl
  ·
    refine g_lload_n C 0 rfl rfl dX5_in_6 ?_
    refine g_lload C 2 rfl dX5_in_7 ?_
    refine g_lcmp C dX5_in_9 ?_
    refine g_lif_gt C (tgt := 17) (by decide) dX5_in_10 (fun h10 => ?_) (fun h10 => ?_)
    ·
      refine g_iconst C (v := (nI 0)) (by decide) dX5_in_17 ?_
      exact g_zret C E dX5_in_18 (by decide +kernel) (bI_f (fun q => by have := Int64.not_le.mpr h10; exact this q.2)).symm Sq.rf rfl
    ·
      refine g_iconst C (v := (nI 1)) (by decide) dX5_in_13 ?_
      refine g_goto C (tgt := 18) (by decide) dX5_in_14 ?_
      exact g_zret C E dX5_in_18 (by decide +kernel) (bI_t ⟨Int64.not_lt.mp h3, Int64.not_lt.mp h10⟩).symm Sq.rf rfl
theorem c_X5_in_t (w : GW) (tu : Int64) (sg : Sg) (a b c : Int64) (h : b ≤ a ∧ a ≤ c) : Kt w yX5_in cX5_in 6 (some .boolean) 0 [.long a, .long b, .long c] sg tu (some (.int (nI 1))) sg tu := by
  have h1 := c_X5_in w tu sg a b c
  rw [bI_t h] at h1
  exact h1
theorem c_X5_in_f (w : GW) (tu : Int64) (sg : Sg) (a b c : Int64) (h : ¬ (b ≤ a ∧ a ≤ c)) : Kt w yX5_in cX5_in 6 (some .boolean) 0 [.long a, .long b, .long c] sg tu (some (.int (nI 0))) sg tu := by
  have h1 := c_X5_in w tu sg a b c
  rw [bI_f h] at h1
  exact h1
set_option maxRecDepth 100000 in
set_option maxHeartbeats 4000000 in
theorem c_X5_isDrum (w : GW) (tu : Int64) (sg : Sg) (x : Int32) : Kt w yX5_isDrum cX5_isDrum 1 (some .boolean) 1 [.int x] sg tu (some (.int (bI (0 ≤ Int32.toInt64 x ∧ Int32.toInt64 x ≤ 5)))) sg tu := by
  refine Kt.of2 RX5 rfl [(0, .int x)] (by decide) rfl (Nat.le_of_ble_eq_true rfl) (fun z C E => ?_)
  refine g_iload_n C 0 rfl rfl dX5_isDrum_0 ?_
  refine g_i2l C dX5_isDrum_1 ?_
  refine g_lconst C (v := 0) (by decide) dX5_isDrum_2 ?_
  refine g_ldc2 C cn_X5_51 dX5_isDrum_3 ?_
  refine g_callS1 [] C (c_X5_in w tu sg (Int32.toInt64 x) 0 5 ) mt_X5_in ml_X5_53 st_X5_in (by decide) rfl (Nat.le_of_ble_eq_true rfl) dX5_isDrum_6 ?_
  refine g_eq (L' := [(0, .int x)]) (S' := [.int (bI (0 ≤ (Int32.toInt64 x) ∧ (Int32.toInt64 x) ≤ 5))]) rfl rfl rfl rfl ?_
  exact g_zret C E dX5_isDrum_9 bI_nar rfl Sq.rf rfl
theorem c_X5_isDrum_t (w : GW) (tu : Int64) (sg : Sg) (j : Nat) (h : j < 6) : Kt w yX5_isDrum cX5_isDrum 1 (some .boolean) 1 [.int (nI j)] sg tu (some (.int (nI 1))) sg tu := by
  have h1 := c_X5_isDrum w tu sg (nI j)
  have e : bI (0 ≤ Int32.toInt64 (nI j) ∧ Int32.toInt64 (nI j) ≤ 5) = 1 := bI_t (in_ok (n := 5) (by omega) (by decide))
  rw [e] at h1
  exact h1
set_option maxRecDepth 100000 in
set_option maxHeartbeats 4000000 in
theorem c_X5_change (w : GW) (tu : Int64) (sg : Sg) (j : Nat) (v : Int32) (hj : j < 35) : Kt w yX5_change cX5_change 4 (some .int) 0 [.ref (ad w 44), .int (nI j), .int v] sg tu (some (.int (sg 45 j))) (us sg 45 (upd (sg 45) j v)) tu := by
  refine Kt.of2 RX5 rfl [(0, .ref (ad w 44)), (1, .int (nI j)), (2, .int v)] (by decide) rfl (Nat.le_of_ble_eq_true rfl) (fun z C E => ?_)
  refine g_aload_n C 0 rfl rfl dX5_change_0 ?_
  refine g_getR C (j := 0) cls5 e_44 rfl (by decide) fl_X5_7 dX5_change_1 ?_
  refine g_iload_n C 1 rfl rfl dX5_change_4 ?_
  refine g_ialdN C j e_45 hj (by decide) dX5_change_5 ?_
  refine g_istore_n C (L' := [(3, .int (sg 45 j)), (0, .ref (ad w 44)), (1, .int (nI j)), (2, .int v)]) rfl (by decide) rfl dX5_change_6 ?_
  refine g_aload_n C 1 rfl rfl dX5_change_7 ?_
  refine g_getR C (j := 0) cls5 e_44 rfl (by decide) fl_X5_7 dX5_change_8 ?_
  refine g_iload_n C 2 rfl rfl dX5_change_11 ?_
  refine g_iload_n C 3 rfl rfl dX5_change_12 ?_
  refine g_iastN C j e_45 hj (by decide) dX5_change_13 ?_
  refine g_sgE (sg' := (us sg 45 (upd (sg 45) j v))) rfl ?_
  refine g_iload_n C 0 rfl rfl dX5_change_14 ?_
  exact g_iret C E dX5_change_15 rfl Sq.rf rfl
set_option maxRecDepth 100000 in
set_option maxHeartbeats 4000000 in
theorem c_X5_fails (w : GW) (tu : Int64) (sg : Sg) : Kt w yX5_fails cX5_fails 1 (some .boolean) 0 [.ref (ad w 44)] sg tu (some (.int (nI 0))) (us sg 44 (upd (sg 44) 14 (sg 44 13))) tu := by
  refine Kt.of2 RX5 rfl [(0, .ref (ad w 44))] (by decide) rfl (Nat.le_of_ble_eq_true rfl) (fun z C E => ?_)
  refine g_aload_n C 0 rfl rfl dX5_fails_0 ?_
  refine g_aload_n C 0 rfl rfl dX5_fails_1 ?_
  refine g_getI C (j := 13) cls5 e_44 rfl (by decide) fl_X5_183 dX5_fails_2 ?_
  refine g_putI C (j := 14) cls5 e_44 rfl (by decide) rfl rfl fl_X5_189 dX5_fails_5 ?_
  refine g_sgE (sg' := (us sg 44 (upd (sg 44) 14 (sg 44 13)))) rfl ?_
  refine g_iconst C (v := (nI 0)) (by decide) dX5_fails_8 ?_
  exact g_zret C E dX5_fails_9 (by decide +kernel) rfl Sq.rf rfl
set_option maxRecDepth 100000 in
set_option maxHeartbeats 4000000 in
theorem c_X5_mix (w : GW) (tu : Int64) (sg : Sg) (v : Int64) : Kt w yX5_mix cX5_mix 3 none 0 [.ref (ad w 44), .long v] sg tu (none) sg (31 * tu + v) := by
  refine Kt.of2 RX5 rfl [(0, .ref (ad w 44)), (1, .long v)] (by decide) rfl (Nat.le_of_ble_eq_true rfl) (fun z C E => ?_)
  refine g_aload_n C 0 rfl rfl dX5_mix_0 ?_
  refine g_ldc2 C cn_X5_221 dX5_mix_1 ?_
  refine g_aload_n C 0 rfl rfl dX5_mix_4 ?_
  refine g_getL C (j := 15) cls5 e_44 rfl (by decide) fl_X5_223 dX5_mix_5 ?_
  refine g_lmul C dX5_mix_8 ?_
  refine g_lload_n C 1 rfl rfl dX5_mix_9 ?_
  refine g_ladd C dX5_mix_10 ?_
  refine g_putL C fl_X5_223 dX5_mix_11 ?_
  exact g_vret C E dX5_mix_14 Sq.rf rfl
set_option maxRecDepth 100000 in
set_option maxHeartbeats 4000000 in
theorem c_X5_wipes (w : GW) (tu : Int64) (sg : Sg) : Kt w yX5_wipes cX5_wipes 2 (some .int) 0 [.ref (ad w 44)] sg tu (some (.int (sg 44 6))) (us sg 44 (upd (sg 44) 6 (nI 0))) tu := by
  refine Kt.of2 RX5 rfl [(0, .ref (ad w 44))] (by decide) rfl (Nat.le_of_ble_eq_true rfl) (fun z C E => ?_)
  refine g_aload_n C 0 rfl rfl dX5_wipes_0 ?_
  refine g_getI C (j := 6) cls5 e_44 rfl (by decide) fl_X5_180 dX5_wipes_1 ?_
  refine g_istore_n C (L' := [(1, .int (sg 44 6)), (0, .ref (ad w 44))]) rfl (by decide) rfl dX5_wipes_4 ?_
  refine g_aload_n C 1 rfl rfl dX5_wipes_5 ?_
  refine g_iconst C (v := (nI 0)) (by decide) dX5_wipes_6 ?_
  refine g_putI C (j := 6) cls5 e_44 rfl (by decide) rfl rfl fl_X5_180 dX5_wipes_7 ?_
  refine g_sgE (sg' := (us sg 44 (upd (sg 44) 6 (nI 0)))) rfl ?_
  refine g_iload_n C 0 rfl rfl dX5_wipes_10 ?_
  exact g_iret C E dX5_wipes_11 rfl Sq.rf rfl
end
section
set_option maxRecDepth 100000 in
set_option maxHeartbeats 4000000 in
theorem c_X5_laysAside (w : GW) (tu : Int64) (sg : Sg) : Kt w yX5_laysAside cX5_laysAside 2 none 0 [.ref (ad w 44)] sg tu (none) (us sg 46 (sg 45)) tu := by
  refine Kt.of2 RX5 rfl [(0, .ref (ad w 44))] (by decide) rfl (Nat.le_of_ble_eq_true rfl) (fun z C E => ?_)
  refine g_iconst C (v := (nI 0)) (by decide) dX5_laysAside_0 ?_
  refine g_istore_n C (L' := [(1, .int (nI 0)), (0, .ref (ad w 44))]) rfl (by decide) rfl dX5_laysAside_1 ?_
  have lp : ∀ (nf i : Nat), 35 < i + nf → i ≤ 35 → (True) → G z w 2 (us sg 46 (fw 0 (sg 45) (sg 46) i)) tu 2 [(1, .int (nI i)), (0, .ref (ad w 44))] [] := by
    intro nf
    induction nf with
    | zero => intro i  h1 h2 hI; exact absurd h1 (by omega)
    | succ nf ih =>
      intro i  h1 h2 hI
      refine g_iload_n C 0 rfl rfl dX5_laysAside_2 ?_
      refine g_bipush C (v := (nI 35)) (by decide) dX5_laysAside_3 ?_
      refine g_icmpN_ge C i 35 (by omega) (by omega) (tgt := 26) (by decide) dX5_laysAside_5 (fun h5 => ?_) (fun h5 => ?_)
      ·
        have hiN : i = 35 := by omega
        subst hiN
        exact g_vret C E dX5_laysAside_26 (Sq.us fun j hj => fw_in ⟨Nat.zero_le _, by rw [Nat.zero_add]; exact hj⟩) rfl
      ·
        refine g_aload_n C 1 rfl rfl dX5_laysAside_8 ?_
        refine g_getR C (j := 1) cls5 e_44 rfl (by decide) fl_X5_13 dX5_laysAside_9 ?_
        refine g_iload_n C 0 rfl rfl dX5_laysAside_12 ?_
        refine g_aload_n C 1 rfl rfl dX5_laysAside_13 ?_
        refine g_getR C (j := 0) cls5 e_44 rfl (by decide) fl_X5_7 dX5_laysAside_14 ?_
        refine g_iload_n C 0 rfl rfl dX5_laysAside_17 ?_
        refine g_ialdN C i e_45 (by omega) (by decide) dX5_laysAside_18 ?_
        refine g_top (y := (sg 45 i)) rfl ?_
        refine g_iastN C i e_46 (by omega) (by decide) dX5_laysAside_19 ?_
        refine g_sgE (sg' := (us sg 46 (upd (fw 0 (sg 45) (sg 46) i) i (sg 45 i)))) us_us ?_
        refine g_iinc C (n := 1) (v := (nI (i + 1))) (L' := [(1, .int (nI (i + 1))), (0, .ref (ad w 44))]) 0 rfl (nI_add i 1) (by decide) rfl dX5_laysAside_20 ?_
        refine g_goto C (tgt := 2) (by decide) dX5_laysAside_23 ?_
        refine g_sub (L' := [(1, .int (nI (i + 1))), (0, .ref (ad w 44))]) [0, 1] rfl ?_
        refine g_sgE (sg' := (us sg 46 (fw 0 (sg 45) (sg 46) (i + 1)))) (congrArg (us sg 46) (fw_s0 rfl)) ?_
        exact ih (i + 1)  (by omega) (by omega) trivial
  refine g_sgE (sg' := (us sg 46 (fw 0 (sg 45) (sg 46) 0))) (by rw [fw_0, us_id]) ?_
  exact lp (35 + 1) 0  (by omega) (by omega) trivial
set_option maxRecDepth 100000 in
set_option maxHeartbeats 4000000 in
theorem c_X5_takesBack (w : GW) (tu : Int64) (sg : Sg) : Kt w yX5_takesBack cX5_takesBack 2 none 0 [.ref (ad w 44)] sg tu (none) (us sg 45 (sg 46)) tu := by
  refine Kt.of2 RX5 rfl [(0, .ref (ad w 44))] (by decide) rfl (Nat.le_of_ble_eq_true rfl) (fun z C E => ?_)
  refine g_iconst C (v := (nI 0)) (by decide) dX5_takesBack_0 ?_
  refine g_istore_n C (L' := [(1, .int (nI 0)), (0, .ref (ad w 44))]) rfl (by decide) rfl dX5_takesBack_1 ?_
  have lp : ∀ (nf i : Nat), 35 < i + nf → i ≤ 35 → (True) → G z w 2 (us sg 45 (fw 0 (sg 46) (sg 45) i)) tu 2 [(1, .int (nI i)), (0, .ref (ad w 44))] [] := by
    intro nf
    induction nf with
    | zero => intro i  h1 h2 hI; exact absurd h1 (by omega)
    | succ nf ih =>
      intro i  h1 h2 hI
      refine g_iload_n C 0 rfl rfl dX5_takesBack_2 ?_
      refine g_bipush C (v := (nI 35)) (by decide) dX5_takesBack_3 ?_
      refine g_icmpN_ge C i 35 (by omega) (by omega) (tgt := 26) (by decide) dX5_takesBack_5 (fun h5 => ?_) (fun h5 => ?_)
      ·
        have hiN : i = 35 := by omega
        subst hiN
        exact g_vret C E dX5_takesBack_26 (Sq.us fun j hj => fw_in ⟨Nat.zero_le _, by rw [Nat.zero_add]; exact hj⟩) rfl
      ·
        refine g_aload_n C 1 rfl rfl dX5_takesBack_8 ?_
        refine g_getR C (j := 0) cls5 e_44 rfl (by decide) fl_X5_7 dX5_takesBack_9 ?_
        refine g_iload_n C 0 rfl rfl dX5_takesBack_12 ?_
        refine g_aload_n C 1 rfl rfl dX5_takesBack_13 ?_
        refine g_getR C (j := 1) cls5 e_44 rfl (by decide) fl_X5_13 dX5_takesBack_14 ?_
        refine g_iload_n C 0 rfl rfl dX5_takesBack_17 ?_
        refine g_ialdN C i e_46 (by omega) (by decide) dX5_takesBack_18 ?_
        refine g_top (y := (sg 46 i)) rfl ?_
        refine g_iastN C i e_45 (by omega) (by decide) dX5_takesBack_19 ?_
        refine g_sgE (sg' := (us sg 45 (upd (fw 0 (sg 46) (sg 45) i) i (sg 46 i)))) us_us ?_
        refine g_iinc C (n := 1) (v := (nI (i + 1))) (L' := [(1, .int (nI (i + 1))), (0, .ref (ad w 44))]) 0 rfl (nI_add i 1) (by decide) rfl dX5_takesBack_20 ?_
        refine g_goto C (tgt := 2) (by decide) dX5_takesBack_23 ?_
        refine g_sub (L' := [(1, .int (nI (i + 1))), (0, .ref (ad w 44))]) [0, 1] rfl ?_
        refine g_sgE (sg' := (us sg 45 (fw 0 (sg 46) (sg 45) (i + 1)))) (congrArg (us sg 45) (fw_s0 rfl)) ?_
        exact ih (i + 1)  (by omega) (by omega) trivial
  refine g_sgE (sg' := (us sg 45 (fw 0 (sg 46) (sg 45) 0))) (by rw [fw_0, us_id]) ?_
  exact lp (35 + 1) 0  (by omega) (by omega) trivial
end
section
set_option maxRecDepth 100000 in
set_option maxHeartbeats 4000000 in
theorem c_X5_refuses_bad (w : GW) (tu : Int64) (sg : Sg) : Kt w yX5_refuses cX5_refuses 2 (some .int) 0 [.ref (ad w 44), .int (-2)] sg tu (some (.int (-2))) (us sg 48 (upd (sg 48) 0 ((sg 48 0) + nI 1))) tu := by
  refine Kt.of2 RX5 rfl [(0, .ref (ad w 44)), (1, .int (-2))] (by decide) rfl (Nat.le_of_ble_eq_true rfl) (fun z C E => ?_)
  refine g_aload_n C 0 rfl rfl dX5_refuses_0 ?_
  refine g_getR C (j := 4) cls5 e_44 rfl (by decide) fl_X5_19 dX5_refuses_1 ?_
  refine g_bipush C (v := (-2)) (by decide) dX5_refuses_4 ?_
  refine g_iload_n C 1 rfl rfl dX5_refuses_6 ?_
  refine g_isub C dX5_refuses_7 ?_
  refine g_top (y := (nI 0)) (by decide) ?_
  refine g_dup2 C rfl rfl dX5_refuses_8 ?_
  refine g_ialdN C 0 e_48 (by decide) (by decide) dX5_refuses_9 ?_
  refine g_iconst C (v := (nI 1)) (by decide) dX5_refuses_10 ?_
  refine g_iadd C dX5_refuses_11 ?_
  refine g_iastN C 0 e_48 (by decide) (by decide) dX5_refuses_12 ?_
  refine g_sgE (sg' := (us sg 48 (upd (sg 48) 0 ((sg 48 0) + (nI 1))))) rfl ?_
  refine g_iload_n C 1 rfl rfl dX5_refuses_13 ?_
  exact g_iret C E dX5_refuses_14 rfl Sq.rf rfl
set_option maxRecDepth 100000 in
set_option maxHeartbeats 4000000 in
theorem c_X5_refuses_no (w : GW) (tu : Int64) (sg : Sg) : Kt w yX5_refuses cX5_refuses 2 (some .int) 0 [.ref (ad w 44), .int (-3)] sg tu (some (.int (-3))) (us sg 48 (upd (sg 48) 1 ((sg 48 1) + nI 1))) tu := by
  refine Kt.of2 RX5 rfl [(0, .ref (ad w 44)), (1, .int (-3))] (by decide) rfl (Nat.le_of_ble_eq_true rfl) (fun z C E => ?_)
  refine g_aload_n C 0 rfl rfl dX5_refuses_0 ?_
  refine g_getR C (j := 4) cls5 e_44 rfl (by decide) fl_X5_19 dX5_refuses_1 ?_
  refine g_bipush C (v := (-2)) (by decide) dX5_refuses_4 ?_
  refine g_iload_n C 1 rfl rfl dX5_refuses_6 ?_
  refine g_isub C dX5_refuses_7 ?_
  refine g_top (y := (nI 1)) (by decide) ?_
  refine g_dup2 C rfl rfl dX5_refuses_8 ?_
  refine g_ialdN C 1 e_48 (by decide) (by decide) dX5_refuses_9 ?_
  refine g_iconst C (v := (nI 1)) (by decide) dX5_refuses_10 ?_
  refine g_iadd C dX5_refuses_11 ?_
  refine g_iastN C 1 e_48 (by decide) (by decide) dX5_refuses_12 ?_
  refine g_sgE (sg' := (us sg 48 (upd (sg 48) 1 ((sg 48 1) + (nI 1))))) rfl ?_
  refine g_iload_n C 1 rfl rfl dX5_refuses_13 ?_
  exact g_iret C E dX5_refuses_14 rfl Sq.rf rfl
set_option maxRecDepth 100000 in
set_option maxHeartbeats 4000000 in
theorem c_X5_refuses_full (w : GW) (tu : Int64) (sg : Sg) : Kt w yX5_refuses cX5_refuses 2 (some .int) 0 [.ref (ad w 44), .int (-4)] sg tu (some (.int (-4))) (us sg 48 (upd (sg 48) 2 ((sg 48 2) + nI 1))) tu := by
  refine Kt.of2 RX5 rfl [(0, .ref (ad w 44)), (1, .int (-4))] (by decide) rfl (Nat.le_of_ble_eq_true rfl) (fun z C E => ?_)
  refine g_aload_n C 0 rfl rfl dX5_refuses_0 ?_
  refine g_getR C (j := 4) cls5 e_44 rfl (by decide) fl_X5_19 dX5_refuses_1 ?_
  refine g_bipush C (v := (-2)) (by decide) dX5_refuses_4 ?_
  refine g_iload_n C 1 rfl rfl dX5_refuses_6 ?_
  refine g_isub C dX5_refuses_7 ?_
  refine g_top (y := (nI 2)) (by decide) ?_
  refine g_dup2 C rfl rfl dX5_refuses_8 ?_
  refine g_ialdN C 2 e_48 (by decide) (by decide) dX5_refuses_9 ?_
  refine g_iconst C (v := (nI 1)) (by decide) dX5_refuses_10 ?_
  refine g_iadd C dX5_refuses_11 ?_
  refine g_iastN C 2 e_48 (by decide) (by decide) dX5_refuses_12 ?_
  refine g_sgE (sg' := (us sg 48 (upd (sg 48) 2 ((sg 48 2) + (nI 1))))) rfl ?_
  refine g_iload_n C 1 rfl rfl dX5_refuses_13 ?_
  exact g_iret C E dX5_refuses_14 rfl Sq.rf rfl
set_option maxRecDepth 100000 in
set_option maxHeartbeats 4000000 in
theorem c_X5_finished_bad (w : GW) (tu : Int64) (sg : Sg) : Kt w yX5_finished cX5_finished 2 (some .int) 1 [.ref (ad w 44), .int (-2)] sg tu (some (.int (-2))) (us sg 48 (upd (sg 48) 0 ((sg 48 0) + nI 1))) tu := by
  refine Kt.of2 RX5 rfl [(0, .ref (ad w 44)), (1, .int (-2))] (by decide) rfl (Nat.le_of_ble_eq_true rfl) (fun z C E => ?_)
  refine g_iload_n C 1 rfl rfl dX5_finished_0 ?_
  refine g_bipush C (v := (-2)) (by decide) dX5_finished_1 ?_
  refine g_icmp_gt C (tgt := 12) (by decide) dX5_finished_3 (fun h3 => absurd h3 (by decide)) (fun h3 => ?_)
  refine g_aload_n C 0 rfl rfl dX5_finished_6 ?_
  refine g_iload_n C 1 rfl rfl dX5_finished_7 ?_
  refine g_callV1 [] C (c_X5_refuses_bad w tu sg  ) mt_X5_refuses e_44 rfl ml_X5_44 im_X5_refuses se_X5_refuses (by decide) rfl (Nat.le_of_ble_eq_true rfl) dX5_finished_8 ?_
  refine g_eq (sg' := (us sg 48 (upd (sg 48) 0 ((sg 48 0) + nI 1)))) (L' := [(0, .ref (ad w 44)), (1, .int (-2))]) (S' := [.int (-2)]) rfl rfl rfl rfl ?_
  exact g_iret C E dX5_finished_11 rfl Sq.rf rfl
set_option maxRecDepth 100000 in
set_option maxHeartbeats 4000000 in
theorem c_X5_finished_no (w : GW) (tu : Int64) (sg : Sg) : Kt w yX5_finished cX5_finished 2 (some .int) 1 [.ref (ad w 44), .int (-3)] sg tu (some (.int (-3))) (us sg 48 (upd (sg 48) 1 ((sg 48 1) + nI 1))) tu := by
  refine Kt.of2 RX5 rfl [(0, .ref (ad w 44)), (1, .int (-3))] (by decide) rfl (Nat.le_of_ble_eq_true rfl) (fun z C E => ?_)
  refine g_iload_n C 1 rfl rfl dX5_finished_0 ?_
  refine g_bipush C (v := (-2)) (by decide) dX5_finished_1 ?_
  refine g_icmp_gt C (tgt := 12) (by decide) dX5_finished_3 (fun h3 => absurd h3 (by decide)) (fun h3 => ?_)
  refine g_aload_n C 0 rfl rfl dX5_finished_6 ?_
  refine g_iload_n C 1 rfl rfl dX5_finished_7 ?_
  refine g_callV1 [] C (c_X5_refuses_no w tu sg  ) mt_X5_refuses e_44 rfl ml_X5_44 im_X5_refuses se_X5_refuses (by decide) rfl (Nat.le_of_ble_eq_true rfl) dX5_finished_8 ?_
  refine g_eq (sg' := (us sg 48 (upd (sg 48) 1 ((sg 48 1) + nI 1)))) (L' := [(0, .ref (ad w 44)), (1, .int (-3))]) (S' := [.int (-3)]) rfl rfl rfl rfl ?_
  exact g_iret C E dX5_finished_11 rfl Sq.rf rfl
set_option maxRecDepth 100000 in
set_option maxHeartbeats 4000000 in
theorem c_X5_remembers (w : GW) (tu : Int64) (sg : Sg) (st : Nat) (hst : sg 44 3 = nI st) (hs5 : st ≤ 5) : Kt w yX5_remembers cX5_remembers 2 none 0 [.ref (ad w 44)] sg tu (none) (us (us sg 47 (pastP (sg 47) (sg 46) st)) 44 (upd (sg 44) 3 (nI (stP st)))) tu := by
  refine Kt.of2 RX5 rfl [(0, .ref (ad w 44))] (by decide) rfl (Nat.le_of_ble_eq_true rfl) (fun z C E => ?_)
  refine g_aload_n C 0 rfl rfl dX5_remembers_0 ?_
  refine g_getI C (j := 3) cls5 e_44 rfl (by decide) fl_X5_40 dX5_remembers_1 ?_
  refine g_top (y := (nI st)) hst ?_
  refine g_iconst C (v := (nI 5)) (by decide) dX5_remembers_4 ?_
  refine g_icmpN_ne C st 5 (by omega) (by omega) (tgt := 48) (by decide) dX5_remembers_5 (fun h5 => ?_) (fun h5 => ?_)
  ·
    refine g_iconst C (v := (nI 0)) (by decide) dX5_remembers_48 ?_
    refine g_istore_n C (L' := [(1, .int (nI 0)), (0, .ref (ad w 44))]) rfl (by decide) rfl dX5_remembers_49 ?_
    have lpb : ∀ (nf i : Nat), 35 < i + nf → i ≤ 35 → (True) → G z w 2 (us sg 47 (fw (35 * st) (fun j => sg 46 (j - 35 * st)) (sg 47) i)) tu 50 [(1, .int (nI i)), (0, .ref (ad w 44))] [] := by
      intro nf
      induction nf with
      | zero => intro i  h1 h2 hI; exact absurd h1 (by omega)
      | succ nf ih =>
        intro i  h1 h2 hI
        refine g_iload_n C 0 rfl rfl dX5_remembers_50 ?_
        refine g_bipush C (v := (nI 35)) (by decide) dX5_remembers_51 ?_
        refine g_icmpN_ge C i 35 (by omega) (by omega) (tgt := 82) (by decide) dX5_remembers_53 (fun h53 => ?_) (fun h53 => ?_)
        ·
          have hiN : i = 35 := by omega
          subst hiN
          refine g_aload_n C 1 rfl rfl dX5_remembers_82 ?_
          refine g_dup C rfl dX5_remembers_83 ?_
          refine g_getI C (j := 3) cls5 e_44 rfl (by decide) fl_X5_40 dX5_remembers_84 ?_
          refine g_top (y := (nI st)) hst ?_
          refine g_iconst C (v := (nI 1)) (by decide) dX5_remembers_87 ?_
          refine g_iadd C dX5_remembers_88 ?_
          refine g_top (y := (nI (st + 1))) (nI_add st 1) ?_
          refine g_putI C (j := 3) cls5 e_44 rfl (by decide) rfl rfl fl_X5_40 dX5_remembers_89 ?_
          refine g_sgE (sg' := (us (us sg 47 (fw (35 * st) (fun j => sg 46 (j - 35 * st)) (sg 47) 35)) 44 (upd (sg 44) 3 (nI (st + 1))))) rfl ?_
          exact g_vret C E dX5_remembers_92 (by
        intro k j hj
        by_cases h47 : k = 47
        · subst h47
          show fw (35 * st) (fun j => sg 46 (j - 35 * st)) (sg 47) 35 j = pastP (sg 47) (sg 46) st j
          unfold pastP fw
          rw [if_neg h5]
        · by_cases h44 : k = 44
          · subst h44
            show upd (sg 44) 3 (nI (st + 1)) j = upd (sg 44) 3 (nI (stP st)) j
            rw [show stP st = st + 1 from if_neg h5]
          · simp [us, h47, h44]) rfl
        ·
          refine g_aload_n C 1 rfl rfl dX5_remembers_56 ?_
          refine g_getR C (j := 2) cls5 e_44 rfl (by decide) fl_X5_16 dX5_remembers_57 ?_
          refine g_bipush C (v := (nI 35)) (by decide) dX5_remembers_60 ?_
          refine g_aload_n C 1 rfl rfl dX5_remembers_62 ?_
          refine g_getI C (j := 3) cls5 e_44 rfl (by decide) fl_X5_40 dX5_remembers_63 ?_
          refine g_top (y := (nI st)) hst ?_
          refine g_imul C dX5_remembers_66 ?_
          refine g_top (y := (nI (35 * st))) (pk_mul 35 st) ?_
          refine g_iload_n C 0 rfl rfl dX5_remembers_67 ?_
          refine g_iadd C dX5_remembers_68 ?_
          refine g_top (y := (nI ((35 * st) + i))) (nI_add (35 * st) i) ?_
          refine g_aload_n C 1 rfl rfl dX5_remembers_69 ?_
          refine g_getR C (j := 1) cls5 e_44 rfl (by decide) fl_X5_13 dX5_remembers_70 ?_
          refine g_iload_n C 0 rfl rfl dX5_remembers_73 ?_
          refine g_ialdN C i e_46 (by omega) (by decide) dX5_remembers_74 ?_
          refine g_top (y := (sg 46 i)) rfl ?_
          refine g_iastN C ((35 * st) + i) e_47 (by omega) (by decide) dX5_remembers_75 ?_
          refine g_sgE (sg' := (us sg 47 (upd (fw (35 * st) (fun j => sg 46 (j - 35 * st)) (sg 47) i) ((35 * st) + i) (sg 46 i)))) us_us ?_
          refine g_iinc C (n := 1) (v := (nI (i + 1))) (L' := [(1, .int (nI (i + 1))), (0, .ref (ad w 44))]) 0 rfl (nI_add i 1) (by decide) rfl dX5_remembers_76 ?_
          refine g_goto C (tgt := 50) (by decide) dX5_remembers_79 ?_
          refine g_sub (L' := [(1, .int (nI (i + 1))), (0, .ref (ad w 44))]) [0, 1] rfl ?_
          refine g_sgE (sg' := (us sg 47 (fw (35 * st) (fun j => sg 46 (j - 35 * st)) (sg 47) (i + 1)))) (congrArg (us sg 47) (fw_s (by rw [Nat.add_sub_cancel_left]))) ?_
          exact ih (i + 1)  (by omega) (by omega) trivial
    refine g_sgE (sg' := (us sg 47 (fw (35 * st) (fun j => sg 46 (j - 35 * st)) (sg 47) 0))) (by rw [fw_0, us_id]) ?_
    exact lpb (35 + 1) 0  (by omega) (by omega) trivial
  ·
    subst h5
    refine g_iconst C (v := (nI 0)) (by decide) dX5_remembers_8 ?_
    refine g_istore_n C (L' := [(1, .int (nI 0)), (0, .ref (ad w 44))]) rfl (by decide) rfl dX5_remembers_9 ?_
    have lpa : ∀ (nf i : Nat), 140 < i + nf → i ≤ 140 → (True) → G z w 2 (us sg 47 (fw 0 (fun j => sg 47 (j + 35)) (sg 47) i)) tu 10 [(1, .int (nI i)), (0, .ref (ad w 44))] [] := by
      intro nf
      induction nf with
      | zero => intro i  h1 h2 hI; exact absurd h1 (by omega)
      | succ nf ih =>
        intro i  h1 h2 hI
        refine g_iload_n C 0 rfl rfl dX5_remembers_10 ?_
        refine g_sipush C (v := (nI 140)) (by decide) dX5_remembers_11 ?_
        refine g_icmpN_ge C i 140 (by omega) (by omega) (tgt := 38) (by decide) dX5_remembers_14 (fun h14 => ?_) (fun h14 => ?_)
        ·
          have hiN : i = 140 := by omega
          subst hiN
          refine g_aload_n C 1 rfl rfl dX5_remembers_38 ?_
          refine g_dup C rfl dX5_remembers_39 ?_
          refine g_getI C (j := 3) cls5 e_44 rfl (by decide) fl_X5_40 dX5_remembers_40 ?_
          refine g_top (y := (nI 5)) hst ?_
          refine g_iconst C (v := (nI 1)) (by decide) dX5_remembers_43 ?_
          refine g_isub C dX5_remembers_44 ?_
          refine g_top (y := (nI 4)) (by decide) ?_
          refine g_putI C (j := 3) cls5 e_44 rfl (by decide) rfl rfl fl_X5_40 dX5_remembers_45 ?_
          refine g_sgE (sg' := (us (us sg 47 (fw 0 (fun j => sg 47 (j + 35)) (sg 47) 140)) 44 (upd (sg 44) 3 (nI 4)))) rfl ?_
          refine g_iconst C (v := (nI 0)) (by decide) dX5_remembers_48 ?_
          refine g_istore_n C (L' := [(1, .int (nI 0)), (0, .ref (ad w 44))]) rfl (by decide) rfl dX5_remembers_49 ?_
          have lpb : ∀ (nf i : Nat), 35 < i + nf → i ≤ 35 → (True) → G z w 2 (us (us (us sg 47 (fw 0 (fun j => sg 47 (j + 35)) (sg 47) 140)) 44 (upd (sg 44) 3 (nI 4))) 47 (fw 140 (fun j => sg 46 (j - 140)) (fw 0 (fun j => sg 47 (j + 35)) (sg 47) 140) i)) tu 50 [(1, .int (nI i)), (0, .ref (ad w 44))] [] := by
            intro nf
            induction nf with
            | zero => intro i  h1 h2 hI; exact absurd h1 (by omega)
            | succ nf ih =>
              intro i  h1 h2 hI
              refine g_iload_n C 0 rfl rfl dX5_remembers_50 ?_
              refine g_bipush C (v := (nI 35)) (by decide) dX5_remembers_51 ?_
              refine g_icmpN_ge C i 35 (by omega) (by omega) (tgt := 82) (by decide) dX5_remembers_53 (fun h53 => ?_) (fun h53 => ?_)
              ·
                have hiN : i = 35 := by omega
                subst hiN
                refine g_aload_n C 1 rfl rfl dX5_remembers_82 ?_
                refine g_dup C rfl dX5_remembers_83 ?_
                refine g_getI C (j := 3) cls5 e_44 rfl (by decide) fl_X5_40 dX5_remembers_84 ?_
                refine g_top (y := (nI 4)) rfl ?_
                refine g_iconst C (v := (nI 1)) (by decide) dX5_remembers_87 ?_
                refine g_iadd C dX5_remembers_88 ?_
                refine g_top (y := (nI 5)) (nI_add 4 1) ?_
                refine g_putI C (j := 3) cls5 e_44 rfl (by decide) rfl rfl fl_X5_40 dX5_remembers_89 ?_
                refine g_sgE (sg' := (us (us (us (us sg 47 (fw 0 (fun j => sg 47 (j + 35)) (sg 47) 140)) 44 (upd (sg 44) 3 (nI 4))) 47 (fw 140 (fun j => sg 46 (j - 140)) (fw 0 (fun j => sg 47 (j + 35)) (sg 47) 140) 35)) 44 (upd (upd (sg 44) 3 (nI 4)) 3 (nI 5)))) rfl ?_
                exact g_vret C E dX5_remembers_92 (by
        intro k j hj
        by_cases h47 : k = 47
        · subst h47
          show fw 140 (fun j => sg 46 (j - 140)) (fw 0 (fun j => sg 47 (j + 35)) (sg 47) 140) 35 j = pastP (sg 47) (sg 46) 5 j
          unfold pastP fw
          have hj2 : j < 175 := hj
          rw [if_pos rfl]
          by_cases h1 : j < 140
          · rw [if_neg (by omega), if_pos (by omega), if_pos h1]
          · rw [if_pos (by omega), if_neg h1]
        · by_cases h44 : k = 44
          · subst h44
            show upd (upd (sg 44) 3 (nI 4)) 3 (nI 5) j = upd (sg 44) 3 (nI 5) j
            unfold upd
            by_cases h : j = 3 <;> simp [h]
          · simp [us, h47, h44]) rfl
              ·
                refine g_aload_n C 1 rfl rfl dX5_remembers_56 ?_
                refine g_getR C (j := 2) cls5 e_44 rfl (by decide) fl_X5_16 dX5_remembers_57 ?_
                refine g_bipush C (v := (nI 35)) (by decide) dX5_remembers_60 ?_
                refine g_aload_n C 1 rfl rfl dX5_remembers_62 ?_
                refine g_getI C (j := 3) cls5 e_44 rfl (by decide) fl_X5_40 dX5_remembers_63 ?_
                refine g_top (y := (nI 4)) rfl ?_
                refine g_imul C dX5_remembers_66 ?_
                refine g_top (y := (nI 140)) (pk_mul 35 4) ?_
                refine g_iload_n C 0 rfl rfl dX5_remembers_67 ?_
                refine g_iadd C dX5_remembers_68 ?_
                refine g_top (y := (nI (140 + i))) (nI_add 140 i) ?_
                refine g_aload_n C 1 rfl rfl dX5_remembers_69 ?_
                refine g_getR C (j := 1) cls5 e_44 rfl (by decide) fl_X5_13 dX5_remembers_70 ?_
                refine g_iload_n C 0 rfl rfl dX5_remembers_73 ?_
                refine g_ialdN C i e_46 (by omega) (by decide) dX5_remembers_74 ?_
                refine g_top (y := (sg 46 i)) rfl ?_
                refine g_iastN C (140 + i) e_47 (by omega) (by decide) dX5_remembers_75 ?_
                refine g_sgE (sg' := (us (us (us sg 47 (fw 0 (fun j => sg 47 (j + 35)) (sg 47) 140)) 44 (upd (sg 44) 3 (nI 4))) 47 (upd (fw 140 (fun j => sg 46 (j - 140)) (fw 0 (fun j => sg 47 (j + 35)) (sg 47) 140) i) (140 + i) (sg 46 i)))) us_us ?_
                refine g_iinc C (n := 1) (v := (nI (i + 1))) (L' := [(1, .int (nI (i + 1))), (0, .ref (ad w 44))]) 0 rfl (nI_add i 1) (by decide) rfl dX5_remembers_76 ?_
                refine g_goto C (tgt := 50) (by decide) dX5_remembers_79 ?_
                refine g_sub (L' := [(1, .int (nI (i + 1))), (0, .ref (ad w 44))]) [0, 1] rfl ?_
                refine g_sgE (sg' := (us (us (us sg 47 (fw 0 (fun j => sg 47 (j + 35)) (sg 47) 140)) 44 (upd (sg 44) 3 (nI 4))) 47 (fw 140 (fun j => sg 46 (j - 140)) (fw 0 (fun j => sg 47 (j + 35)) (sg 47) 140) (i + 1)))) (congrArg (us _ 47) (fw_s (by rw [Nat.add_sub_cancel_left]))) ?_
                exact ih (i + 1)  (by omega) (by omega) trivial
          refine g_sgE (sg' := (us (us (us sg 47 (fw 0 (fun j => sg 47 (j + 35)) (sg 47) 140)) 44 (upd (sg 44) 3 (nI 4))) 47 (fw 140 (fun j => sg 46 (j - 140)) (fw 0 (fun j => sg 47 (j + 35)) (sg 47) 140) 0))) (by rw [fw_0]; exact (us_id (sg := us _ 44 _)).symm) ?_
          exact lpb (35 + 1) 0  (by omega) (by omega) trivial
        ·
          refine g_aload_n C 1 rfl rfl dX5_remembers_17 ?_
          refine g_getR C (j := 2) cls5 e_44 rfl (by decide) fl_X5_16 dX5_remembers_18 ?_
          refine g_iload_n C 0 rfl rfl dX5_remembers_21 ?_
          refine g_aload_n C 1 rfl rfl dX5_remembers_22 ?_
          refine g_getR C (j := 2) cls5 e_44 rfl (by decide) fl_X5_16 dX5_remembers_23 ?_
          refine g_iload_n C 0 rfl rfl dX5_remembers_26 ?_
          refine g_bipush C (v := (nI 35)) (by decide) dX5_remembers_27 ?_
          refine g_iadd C dX5_remembers_29 ?_
          refine g_top (y := (nI (i + 35))) (nI_add i 35) ?_
          refine g_ialdN C (i + 35) e_47 (by omega) (by decide) dX5_remembers_30 ?_
          refine g_top (y := ((fw 0 (fun j => sg 47 (j + 35)) (sg 47) i) (i + 35))) rfl ?_
          refine g_iastN C i e_47 (by omega) (by decide) dX5_remembers_31 ?_
          refine g_sgE (sg' := (us sg 47 (upd (fw 0 (fun j => sg 47 (j + 35)) (sg 47) i) i ((fw 0 (fun j => sg 47 (j + 35)) (sg 47) i) (i + 35))))) us_us ?_
          refine g_iinc C (n := 1) (v := (nI (i + 1))) (L' := [(1, .int (nI (i + 1))), (0, .ref (ad w 44))]) 0 rfl (nI_add i 1) (by decide) rfl dX5_remembers_32 ?_
          refine g_goto C (tgt := 10) (by decide) dX5_remembers_35 ?_
          refine g_sub (L' := [(1, .int (nI (i + 1))), (0, .ref (ad w 44))]) [0, 1] rfl ?_
          refine g_sgE (sg' := (us sg 47 (fw 0 (fun j => sg 47 (j + 35)) (sg 47) (i + 1)))) (congrArg (us sg 47) (fw_s0 (fw_out (by omega)))) ?_
          exact ih (i + 1)  (by omega) (by omega) trivial
    refine g_sgE (sg' := (us sg 47 (fw 0 (fun j => sg 47 (j + 35)) (sg 47) 0))) (by rw [fw_0, us_id]) ?_
    exact lpa (140 + 1) 0  (by omega) (by omega) trivial
end
section
set_option maxRecDepth 100000 in
set_option maxHeartbeats 4000000 in
theorem c_X5_finished_ok (w : GW) (tu : Int64) (sg : Sg) (a : Nat) (st : Nat) (ha : a < 2 ^ 31) (hst : sg 44 3 = nI st) (hs5 : st ≤ 5) : Kt w yX5_finished cX5_finished 2 (some .int) 1 [.ref (ad w 44), .int (nI a)] sg tu (some (.int (nI a))) (us (us sg 47 (pastP (sg 47) (sg 46) st)) 44 (upd (sg 44) 3 (nI (stP st)))) tu := by
  refine Kt.of2 RX5 rfl [(0, .ref (ad w 44)), (1, .int (nI a))] (by decide) rfl (Nat.le_of_ble_eq_true rfl) (fun z C E => ?_)
  refine g_iload_n C 1 rfl rfl dX5_finished_0 ?_
  refine g_bipush C (v := (-2)) (by decide) dX5_finished_1 ?_
  refine g_icmp_gt C (tgt := 12) (by decide) dX5_finished_3 (fun h3 => ?_) (fun h3 => absurd (m2_lt ha) h3)
  refine g_aload_n C 0 rfl rfl dX5_finished_12 ?_
  refine g_callV0 [] C (c_X5_remembers w tu sg  st hst (by omega)) mt_X5_remembers e_44 rfl ml_X5_48 im_X5_remembers se_X5_remembers (by decide) rfl (Nat.le_of_ble_eq_true rfl) dX5_finished_13 ?_
  refine g_eq (sg' := (us (us sg 47 (pastP (sg 47) (sg 46) st)) 44 (upd (sg 44) 3 (nI (stP st))))) (L' := [(0, .ref (ad w 44)), (1, .int (nI a))]) (S' := []) rfl rfl rfl rfl ?_
  refine g_iload_n C 1 rfl rfl dX5_finished_16 ?_
  exact g_iret C E dX5_finished_17 rfl Sq.rf rfl
set_option maxRecDepth 100000 in
set_option maxHeartbeats 4000000 in
theorem c_X5_back_no (w : GW) (tu : Int64) (sg : Sg) (hst : sg 44 3 = nI 0) : Kt w yX5_back cX5_back 2 (some .int) 1 [.ref (ad w 44)] sg tu (some (.int (-3))) (us sg 48 (upd (sg 48) 1 ((sg 48 1) + nI 1))) tu := by
  refine Kt.of2 RX5 rfl [(0, .ref (ad w 44))] (by decide) rfl (Nat.le_of_ble_eq_true rfl) (fun z C E => ?_)
  refine g_aload_n C 0 rfl rfl dX5_back_0 ?_
  refine g_getI C (j := 3) cls5 e_44 rfl (by decide) fl_X5_40 dX5_back_1 ?_
  refine g_top (y := (nI 0)) hst ?_
  refine g_if_ne C (tgt := 14) (by decide) dX5_back_4 (fun h4 => absurd h4 (by decide)) (fun h4 => ?_)
  refine g_aload_n C 0 rfl rfl dX5_back_7 ?_
  refine g_bipush C (v := (-3)) (by decide) dX5_back_8 ?_
  refine g_callV1 [] C (c_X5_refuses_no w tu sg  ) mt_X5_refuses e_44 rfl ml_X5_44 im_X5_refuses se_X5_refuses (by decide) rfl (Nat.le_of_ble_eq_true rfl) dX5_back_10 ?_
  refine g_eq (sg' := (us sg 48 (upd (sg 48) 1 ((sg 48 1) + nI 1)))) (L' := [(0, .ref (ad w 44))]) (S' := [.int (-3)]) rfl rfl rfl rfl ?_
  exact g_iret C E dX5_back_13 rfl Sq.rf rfl
set_option maxRecDepth 100000 in
set_option maxHeartbeats 4000000 in
theorem c_X5_back_ok (w : GW) (tu : Int64) (sg : Sg) (st : Nat) (hst : sg 44 3 = nI (st + 1)) (hs5 : st < 5) : Kt w yX5_back cX5_back 2 (some .int) 0 [.ref (ad w 44)] sg tu (some (.int (nI st))) (us (us sg 44 (upd (sg 44) 3 (nI st))) 45 (fun k => (sg 47) (35 * st + k))) tu := by
  refine Kt.of2 RX5 rfl [(0, .ref (ad w 44))] (by decide) rfl (Nat.le_of_ble_eq_true rfl) (fun z C E => ?_)
  refine g_aload_n C 0 rfl rfl dX5_back_0 ?_
  refine g_getI C (j := 3) cls5 e_44 rfl (by decide) fl_X5_40 dX5_back_1 ?_
  refine g_top (y := (nI (st + 1))) hst ?_
  refine g_ifN_ne C (st + 1) (by omega) (tgt := 14) (by decide) dX5_back_4 (fun h4 => ?_) (fun h4 => absurd h4 (by omega))
  refine g_aload_n C 0 rfl rfl dX5_back_14 ?_
  refine g_dup C rfl dX5_back_15 ?_
  refine g_getI C (j := 3) cls5 e_44 rfl (by decide) fl_X5_40 dX5_back_16 ?_
  refine g_top (y := (nI (st + 1))) hst ?_
  refine g_iconst C (v := (nI 1)) (by decide) dX5_back_19 ?_
  refine g_isub C dX5_back_20 ?_
  refine g_top (y := (nI st)) (by rw [nI_succ]; exact Int32.add_sub_cancel _ _) ?_
  refine g_putI C (j := 3) cls5 e_44 rfl (by decide) rfl rfl fl_X5_40 dX5_back_21 ?_
  refine g_sgE (sg' := (us sg 44 (upd (sg 44) 3 (nI st)))) rfl ?_
  refine g_iconst C (v := (nI 0)) (by decide) dX5_back_24 ?_
  refine g_istore_n C (L' := [(1, .int (nI 0)), (0, .ref (ad w 44))]) rfl (by decide) rfl dX5_back_25 ?_
  have lp : ∀ (nf i : Nat), 35 < i + nf → i ≤ 35 → (True) → G z w 2 (us (us sg 44 (upd (sg 44) 3 (nI st))) 45 (fw 0 (fun k => sg 47 (35 * st + k)) (sg 45) i)) tu 26 [(1, .int (nI i)), (0, .ref (ad w 44))] [] := by
    intro nf
    induction nf with
    | zero => intro i  h1 h2 hI; exact absurd h1 (by omega)
    | succ nf ih =>
      intro i  h1 h2 hI
      refine g_iload_n C 0 rfl rfl dX5_back_26 ?_
      refine g_bipush C (v := (nI 35)) (by decide) dX5_back_27 ?_
      refine g_icmpN_ge C i 35 (by omega) (by omega) (tgt := 58) (by decide) dX5_back_29 (fun h29 => ?_) (fun h29 => ?_)
      ·
        have hiN : i = 35 := by omega
        subst hiN
        refine g_aload_n C 1 rfl rfl dX5_back_58 ?_
        refine g_getI C (j := 3) cls5 e_44 rfl (by decide) fl_X5_40 dX5_back_59 ?_
        refine g_top (y := (nI st)) rfl ?_
        exact g_iret C E dX5_back_62 rfl (Sq.us fun j hj => fw_in ⟨Nat.zero_le _, by rw [Nat.zero_add]; exact hj⟩) rfl
      ·
        refine g_aload_n C 1 rfl rfl dX5_back_32 ?_
        refine g_getR C (j := 0) cls5 e_44 rfl (by decide) fl_X5_7 dX5_back_33 ?_
        refine g_iload_n C 0 rfl rfl dX5_back_36 ?_
        refine g_aload_n C 1 rfl rfl dX5_back_37 ?_
        refine g_getR C (j := 2) cls5 e_44 rfl (by decide) fl_X5_16 dX5_back_38 ?_
        refine g_bipush C (v := (nI 35)) (by decide) dX5_back_41 ?_
        refine g_aload_n C 1 rfl rfl dX5_back_43 ?_
        refine g_getI C (j := 3) cls5 e_44 rfl (by decide) fl_X5_40 dX5_back_44 ?_
        refine g_top (y := (nI st)) rfl ?_
        refine g_imul C dX5_back_47 ?_
        refine g_top (y := (nI (35 * st))) (pk_mul 35 st) ?_
        refine g_iload_n C 0 rfl rfl dX5_back_48 ?_
        refine g_iadd C dX5_back_49 ?_
        refine g_top (y := (nI ((35 * st) + i))) (nI_add (35 * st) i) ?_
        refine g_ialdN C ((35 * st) + i) e_47 (by omega) (by decide) dX5_back_50 ?_
        refine g_top (y := (sg 47 ((35 * st) + i))) rfl ?_
        refine g_iastN C i e_45 (by omega) (by decide) dX5_back_51 ?_
        refine g_sgE (sg' := (us (us sg 44 (upd (sg 44) 3 (nI st))) 45 (upd (fw 0 (fun k => sg 47 (35 * st + k)) (sg 45) i) i (sg 47 ((35 * st) + i))))) us_us ?_
        refine g_iinc C (n := 1) (v := (nI (i + 1))) (L' := [(1, .int (nI (i + 1))), (0, .ref (ad w 44))]) 0 rfl (nI_add i 1) (by decide) rfl dX5_back_52 ?_
        refine g_goto C (tgt := 26) (by decide) dX5_back_55 ?_
        refine g_sub (L' := [(1, .int (nI (i + 1))), (0, .ref (ad w 44))]) [0, 1] rfl ?_
        refine g_sgE (sg' := (us (us sg 44 (upd (sg 44) 3 (nI st))) 45 (fw 0 (fun k => sg 47 (35 * st + k)) (sg 45) (i + 1)))) (congrArg (us _ 45) (fw_s0 rfl)) ?_
        exact ih (i + 1)  (by omega) (by omega) trivial
  refine g_sgE (sg' := (us (us sg 44 (upd (sg 44) 3 (nI st))) 45 (fw 0 (fun k => sg 47 (35 * st + k)) (sg 45) 0))) (by rw [fw_0]; exact (us_id (sg := us _ 44 _)).symm) ?_
  exact lp (35 + 1) 0  (by omega) (by omega) trivial
set_option maxRecDepth 100000 in
set_option maxHeartbeats 4000000 in
theorem c_X5_whole (w : GW) (tu : Int64) (sg : Sg) (g : Nat) (wn : Int32) (hg : g ≤ 9) : Kt w yX5_whole cX5_whole 4 (some .int) 0 [.int (nI g), .int wn] sg tu (some (.int (whX wn (g + 1)))) sg tu := by
  refine Kt.of2 RX5 rfl [(0, .int (nI g)), (1, .int wn)] (by decide) rfl (Nat.le_of_ble_eq_true rfl) (fun z C E => ?_)
  refine g_iconst C (v := (nI 0)) (by decide) dX5_whole_0 ?_
  refine g_istore_n C (L' := [(2, .int (nI 0)), (0, .int (nI g)), (1, .int wn)]) rfl (by decide) rfl dX5_whole_1 ?_
  refine g_iconst C (v := (nI 1)) (by decide) dX5_whole_2 ?_
  refine g_istore_n C (L' := [(3, .int (nI 1)), (2, .int (nI 0)), (0, .int (nI g)), (1, .int wn)]) rfl (by decide) rfl dX5_whole_3 ?_
  have lp : ∀ (nf i : Nat) (m : Int32), (g + 1) < i + nf → i ≤ (g + 1) → (1 ≤ i ∧ m = whX wn i) → G z w 4 sg tu 4 [(3, .int (nI i)), (2, .int m), (0, .int (nI g)), (1, .int wn)] [] := by
    intro nf
    induction nf with
    | zero => intro i m h1 h2 hI; exact absurd h1 (by omega)
    | succ nf ih =>
      intro i m h1 h2 hI
      refine g_iload_n C 0 rfl rfl dX5_whole_4 ?_
      refine g_iload_n C 2 rfl rfl dX5_whole_5 ?_
      refine g_icmpN_gt C i g (by omega) (by omega) (tgt := 25) (by decide) dX5_whole_6 (fun h6 => ?_) (fun h6 => ?_)
      ·
        have hiN : i = (g + 1) := by omega
        subst hiN
        refine g_iload_n C 1 rfl rfl dX5_whole_25 ?_
        exact g_iret C E dX5_whole_26 hI.2 Sq.rf rfl
      ·
        refine g_iload_n C 1 rfl rfl dX5_whole_9 ?_
        refine g_iload_n C 3 rfl rfl dX5_whole_10 ?_
        refine g_iload_n C 0 rfl rfl dX5_whole_11 ?_
        refine g_ishr C dX5_whole_12 ?_
        refine g_iconst C (v := (nI 1)) (by decide) dX5_whole_13 ?_
        refine g_iand C dX5_whole_14 ?_
        refine g_iconst C (v := (nI 1)) (by decide) dX5_whole_15 ?_
        refine g_ixor C dX5_whole_16 ?_
        refine g_iadd C dX5_whole_17 ?_
        refine g_istore_n C (L' := [(2, .int (m + (((wn >>> ((nI i) &&& 31)) &&& (nI 1)) ^^^ (nI 1)))), (3, .int (nI i)), (0, .int (nI g)), (1, .int wn)]) rfl (by decide) rfl dX5_whole_18 ?_
        refine g_iinc C (n := 1) (v := (nI (i + 1))) (L' := [(3, .int (nI (i + 1))), (2, .int (m + (((wn >>> ((nI i) &&& 31)) &&& (nI 1)) ^^^ (nI 1)))), (0, .int (nI g)), (1, .int wn)]) 1 rfl (nI_add i 1) (by decide) rfl dX5_whole_19 ?_
        refine g_goto C (tgt := 4) (by decide) dX5_whole_22 ?_
        refine g_sub (L' := [(3, .int (nI (i + 1))), (2, .int (m + (((wn >>> ((nI i) &&& 31)) &&& (nI 1)) ^^^ (nI 1)))), (0, .int (nI g)), (1, .int wn)]) [0, 1, 2, 3] rfl ?_
        exact ih (i + 1) (m + (((wn >>> ((nI i) &&& 31)) &&& (nI 1)) ^^^ (nI 1))) (by omega) (by omega) (⟨by omega, by rw [whX_s hI.1, hI.2]⟩)
  exact lp ((g + 1) + 1) 1 (nI 0) (by omega) (by omega) (⟨Nat.le_refl _, rfl⟩)
set_option maxRecDepth 100000 in
set_option maxHeartbeats 4000000 in
theorem c_X5_wornMany (w : GW) (tu : Int64) (sg : Sg) (wn : Int32) : Kt w yX5_wornMany cX5_wornMany 3 (some .int) 0 [.int wn] sg tu (some (.int (wmX wn 10))) sg tu := by
  refine Kt.of2 RX5 rfl [(0, .int wn)] (by decide) rfl (Nat.le_of_ble_eq_true rfl) (fun z C E => ?_)
  refine g_iconst C (v := (nI 0)) (by decide) dX5_wornMany_0 ?_
  refine g_istore_n C (L' := [(1, .int (nI 0)), (0, .int wn)]) rfl (by decide) rfl dX5_wornMany_1 ?_
  refine g_iconst C (v := (nI 1)) (by decide) dX5_wornMany_2 ?_
  refine g_istore_n C (L' := [(2, .int (nI 1)), (1, .int (nI 0)), (0, .int wn)]) rfl (by decide) rfl dX5_wornMany_3 ?_
  have lp : ∀ (nf i : Nat) (m : Int32), 10 < i + nf → i ≤ 10 → (1 ≤ i ∧ m = wmX wn i) → G z w 3 sg tu 4 [(2, .int (nI i)), (1, .int m), (0, .int wn)] [] := by
    intro nf
    induction nf with
    | zero => intro i m h1 h2 hI; exact absurd h1 (by omega)
    | succ nf ih =>
      intro i m h1 h2 hI
      refine g_iload_n C 0 rfl rfl dX5_wornMany_4 ?_
      refine g_bipush C (v := (nI 10)) (by decide) dX5_wornMany_5 ?_
      refine g_icmpN_ge C i 10 (by omega) (by omega) (tgt := 24) (by decide) dX5_wornMany_7 (fun h7 => ?_) (fun h7 => ?_)
      ·
        have hiN : i = 10 := by omega
        subst hiN
        refine g_iload_n C 1 rfl rfl dX5_wornMany_24 ?_
        exact g_iret C E dX5_wornMany_25 hI.2 Sq.rf rfl
      ·
        refine g_iload_n C 1 rfl rfl dX5_wornMany_10 ?_
        refine g_iload_n C 2 rfl rfl dX5_wornMany_11 ?_
        refine g_iload_n C 0 rfl rfl dX5_wornMany_12 ?_
        refine g_ishr C dX5_wornMany_13 ?_
        refine g_iconst C (v := (nI 1)) (by decide) dX5_wornMany_14 ?_
        refine g_iand C dX5_wornMany_15 ?_
        refine g_iadd C dX5_wornMany_16 ?_
        refine g_istore_n C (L' := [(1, .int (m + ((wn >>> ((nI i) &&& 31)) &&& (nI 1)))), (2, .int (nI i)), (0, .int wn)]) rfl (by decide) rfl dX5_wornMany_17 ?_
        refine g_iinc C (n := 1) (v := (nI (i + 1))) (L' := [(2, .int (nI (i + 1))), (1, .int (m + ((wn >>> ((nI i) &&& 31)) &&& (nI 1)))), (0, .int wn)]) 1 rfl (nI_add i 1) (by decide) rfl dX5_wornMany_18 ?_
        refine g_goto C (tgt := 4) (by decide) dX5_wornMany_21 ?_
        refine g_sub (L' := [(2, .int (nI (i + 1))), (1, .int (m + ((wn >>> ((nI i) &&& 31)) &&& (nI 1)))), (0, .int wn)]) [0, 1, 2] rfl ?_
        exact ih (i + 1) (m + ((wn >>> ((nI i) &&& 31)) &&& (nI 1))) (by omega) (by omega) (⟨by omega, by rw [wmX_s hI.1, hI.2]⟩)
  exact lp (10 + 1) 1 (nI 0) (by omega) (by omega) (⟨Nat.le_refl _, rfl⟩)
set_option maxRecDepth 100000 in
set_option maxHeartbeats 4000000 in
theorem c_X5_laysGives (w : GW) (tu : Int64) (sg : Sg) (dg : Nat → Nat) (hdg : ∀ d, d < 6 → sg 45 d = nI (dg d) ∧ dg d ≤ 9) : Kt w yX5_laysGives cX5_laysGives 2 none 1 [.ref (ad w 44)] sg tu (none) (us sg 50 (fun d => whX ((sg 45) (6 + d)) (dg d + 1))) tu := by
  refine Kt.of2 RX5 rfl [(0, .ref (ad w 44))] (by decide) rfl (Nat.le_of_ble_eq_true rfl) (fun z C E => ?_)
  refine g_iconst C (v := (nI 0)) (by decide) dX5_laysGives_0 ?_
  refine g_istore_n C (L' := [(1, .int (nI 0)), (0, .ref (ad w 44))]) rfl (by decide) rfl dX5_laysGives_1 ?_
  have lp : ∀ (nf i : Nat), 6 < i + nf → i ≤ 6 → (True) → G z w 2 (us sg 50 (fw 0 (fun d => whX ((sg 45) (6 + d)) (dg d + 1)) (sg 50) i)) tu 2 [(1, .int (nI i)), (0, .ref (ad w 44))] [] := by
    intro nf
    induction nf with
    | zero => intro i  h1 h2 hI; exact absurd h1 (by omega)
    | succ nf ih =>
      intro i  h1 h2 hI
      refine g_iload_n C 0 rfl rfl dX5_laysGives_2 ?_
      refine g_bipush C (v := (nI 6)) (by decide) dX5_laysGives_3 ?_
      refine g_icmpN_ge C i 6 (by omega) (by omega) (tgt := 40) (by decide) dX5_laysGives_5 (fun h5 => ?_) (fun h5 => ?_)
      ·
        have hiN : i = 6 := by omega
        subst hiN
        exact g_vret C E dX5_laysGives_40 (Sq.us fun j hj => fw_in ⟨Nat.zero_le _, by rw [Nat.zero_add]; exact hj⟩) rfl
      ·
        refine g_aload_n C 1 rfl rfl dX5_laysGives_8 ?_
        refine g_getR C (j := 7) cls5 e_44 rfl (by decide) fl_X5_25 dX5_laysGives_9 ?_
        refine g_iload_n C 0 rfl rfl dX5_laysGives_12 ?_
        refine g_aload_n C 1 rfl rfl dX5_laysGives_13 ?_
        refine g_getR C (j := 0) cls5 e_44 rfl (by decide) fl_X5_7 dX5_laysGives_14 ?_
        refine g_iconst C (v := (nI 0)) (by decide) dX5_laysGives_17 ?_
        refine g_iload_n C 0 rfl rfl dX5_laysGives_18 ?_
        refine g_iadd C dX5_laysGives_19 ?_
        refine g_top (y := (nI i)) (by rw [nI_add, Nat.zero_add]) ?_
        refine g_ialdN C i e_45 (by omega) (by decide) dX5_laysGives_20 ?_
        refine g_top (y := (sg 45 i)) rfl ?_
        refine g_top (y := (nI (dg i))) (hdg i (by omega)).1 ?_
        refine g_aload_n C 1 rfl rfl dX5_laysGives_21 ?_
        refine g_getR C (j := 0) cls5 e_44 rfl (by decide) fl_X5_7 dX5_laysGives_22 ?_
        refine g_bipush C (v := (nI 6)) (by decide) dX5_laysGives_25 ?_
        refine g_iload_n C 0 rfl rfl dX5_laysGives_27 ?_
        refine g_iadd C dX5_laysGives_28 ?_
        refine g_top (y := (nI (6 + i))) (nI_add 6 i) ?_
        refine g_ialdN C (6 + i) e_45 (by omega) (by decide) dX5_laysGives_29 ?_
        refine g_top (y := (sg 45 (6 + i))) rfl ?_
        refine g_callS1 [.int (nI i), .ref (ad w 50)] C (c_X5_whole w tu (us sg 50 (fw 0 (fun d => whX ((sg 45) (6 + d)) (dg d + 1)) (sg 50) i)) (dg i) (sg 45 (6 + i)) (hdg i (by omega)).2) mt_X5_whole ml_X5_57 st_X5_whole (by decide) rfl (Nat.le_of_ble_eq_true rfl) dX5_laysGives_30 ?_
        refine g_eq (L' := [(1, .int (nI i)), (0, .ref (ad w 44))]) (S' := [.int (whX (sg 45 (6 + i)) ((dg i) + 1)), .int (nI i), .ref (ad w 50)]) rfl rfl rfl rfl ?_
        refine g_iastN C i e_50 (by omega) (by decide) dX5_laysGives_33 ?_
        refine g_sgE (sg' := (us sg 50 (upd (fw 0 (fun d => whX ((sg 45) (6 + d)) (dg d + 1)) (sg 50) i) i (whX (sg 45 (6 + i)) ((dg i) + 1))))) us_us ?_
        refine g_iinc C (n := 1) (v := (nI (i + 1))) (L' := [(1, .int (nI (i + 1))), (0, .ref (ad w 44))]) 0 rfl (nI_add i 1) (by decide) rfl dX5_laysGives_34 ?_
        refine g_goto C (tgt := 2) (by decide) dX5_laysGives_37 ?_
        refine g_sub (L' := [(1, .int (nI (i + 1))), (0, .ref (ad w 44))]) [0, 1] rfl ?_
        refine g_sgE (sg' := (us sg 50 (fw 0 (fun d => whX ((sg 45) (6 + d)) (dg d + 1)) (sg 50) (i + 1)))) (congrArg (us sg 50) (fw_s0 rfl)) ?_
        exact ih (i + 1)  (by omega) (by omega) trivial
  refine g_sgE (sg' := (us sg 50 (fw 0 (fun d => whX ((sg 45) (6 + d)) (dg d + 1)) (sg 50) 0))) (by rw [fw_0, us_id]) ?_
  exact lp (6 + 1) 0  (by omega) (by omega) trivial
set_option maxRecDepth 100000 in
set_option maxHeartbeats 4000000 in
theorem c_X5_clearsCounters (w : GW) (tu : Int64) (sg : Sg) : Kt w yX5_clearsCounters cX5_clearsCounters 2 none 0 [.ref (ad w 44)] sg tu (none) (us sg 45 (fw 24 (fun _ => nI 0) (sg 45) 7)) tu := by
  refine Kt.of2 RX5 rfl [(0, .ref (ad w 44))] (by decide) rfl (Nat.le_of_ble_eq_true rfl) (fun z C E => ?_)
  refine g_iconst C (v := (nI 0)) (by decide) dX5_clearsCounters_0 ?_
  refine g_istore_n C (L' := [(1, .int (nI 0)), (0, .ref (ad w 44))]) rfl (by decide) rfl dX5_clearsCounters_1 ?_
  have lp : ∀ (nf i : Nat), 7 < i + nf → i ≤ 7 → (True) → G z w 2 (us sg 45 (fw 24 (fun _ => nI 0) (sg 45) i)) tu 2 [(1, .int (nI i)), (0, .ref (ad w 44))] [] := by
    intro nf
    induction nf with
    | zero => intro i  h1 h2 hI; exact absurd h1 (by omega)
    | succ nf ih =>
      intro i  h1 h2 hI
      refine g_iload_n C 0 rfl rfl dX5_clearsCounters_2 ?_
      refine g_bipush C (v := (nI 7)) (by decide) dX5_clearsCounters_3 ?_
      refine g_icmpN_ge C i 7 (by omega) (by omega) (tgt := 24) (by decide) dX5_clearsCounters_5 (fun h5 => ?_) (fun h5 => ?_)
      ·
        have hiN : i = 7 := by omega
        subst hiN
        exact g_vret C E dX5_clearsCounters_24 Sq.rf rfl
      ·
        refine g_aload_n C 1 rfl rfl dX5_clearsCounters_8 ?_
        refine g_getR C (j := 0) cls5 e_44 rfl (by decide) fl_X5_7 dX5_clearsCounters_9 ?_
        refine g_bipush C (v := (nI 24)) (by decide) dX5_clearsCounters_12 ?_
        refine g_iload_n C 0 rfl rfl dX5_clearsCounters_14 ?_
        refine g_iadd C dX5_clearsCounters_15 ?_
        refine g_top (y := (nI (24 + i))) (nI_add 24 i) ?_
        refine g_iconst C (v := (nI 0)) (by decide) dX5_clearsCounters_16 ?_
        refine g_iastN C (24 + i) e_45 (by omega) (by decide) dX5_clearsCounters_17 ?_
        refine g_sgE (sg' := (us sg 45 (upd (fw 24 (fun _ => nI 0) (sg 45) i) (24 + i) (nI 0)))) us_us ?_
        refine g_iinc C (n := 1) (v := (nI (i + 1))) (L' := [(1, .int (nI (i + 1))), (0, .ref (ad w 44))]) 0 rfl (nI_add i 1) (by decide) rfl dX5_clearsCounters_18 ?_
        refine g_goto C (tgt := 2) (by decide) dX5_clearsCounters_21 ?_
        refine g_sub (L' := [(1, .int (nI (i + 1))), (0, .ref (ad w 44))]) [0, 1] rfl ?_
        refine g_sgE (sg' := (us sg 45 (fw 24 (fun _ => nI 0) (sg 45) (i + 1)))) (congrArg (us sg 45) (fw_s rfl)) ?_
        exact ih (i + 1)  (by omega) (by omega) trivial
  refine g_sgE (sg' := (us sg 45 (fw 24 (fun _ => nI 0) (sg 45) 0))) (by rw [fw_0, us_id]) ?_
  exact lp (7 + 1) 0  (by omega) (by omega) trivial
set_option maxRecDepth 100000 in
set_option maxHeartbeats 4000000 in
theorem c_X5_clearsAll (w : GW) (tu : Int64) (sg : Sg) : Kt w yX5_clearsAll cX5_clearsAll 3 (some .int) 1 [.ref (ad w 44)] sg tu (some (.int (czX (sg 45) (fun _ => nI 0) 12 12))) (us sg 45 (fw 24 (fun _ => nI 0) (fw 12 (fun _ => nI 0) (sg 45) 12) 7)) tu := by
  refine Kt.of2 RX5 rfl [(0, .ref (ad w 44))] (by decide) rfl (Nat.le_of_ble_eq_true rfl) (fun z C E => ?_)
  refine g_iconst C (v := (nI 0)) (by decide) dX5_clearsAll_0 ?_
  refine g_istore_n C (L' := [(1, .int (nI 0)), (0, .ref (ad w 44))]) rfl (by decide) rfl dX5_clearsAll_1 ?_
  refine g_iconst C (v := (nI 0)) (by decide) dX5_clearsAll_2 ?_
  refine g_istore_n C (L' := [(2, .int (nI 0)), (1, .int (nI 0)), (0, .ref (ad w 44))]) rfl (by decide) rfl dX5_clearsAll_3 ?_
  have lp : ∀ (nf i : Nat) (m : Int32), 12 < i + nf → i ≤ 12 → (m = czX (sg 45) (fun _ => nI 0) 12 i) → G z w 3 (us sg 45 (fw 12 (fun _ => nI 0) (sg 45) i)) tu 4 [(2, .int (nI i)), (1, .int m), (0, .ref (ad w 44))] [] := by
    intro nf
    induction nf with
    | zero => intro i m h1 h2 hI; exact absurd h1 (by omega)
    | succ nf ih =>
      intro i m h1 h2 hI
      refine g_iload_n C 0 rfl rfl dX5_clearsAll_4 ?_
      refine g_bipush C (v := (nI 12)) (by decide) dX5_clearsAll_5 ?_
      refine g_icmpN_ge C i 12 (by omega) (by omega) (tgt := 46) (by decide) dX5_clearsAll_7 (fun h7 => ?_) (fun h7 => ?_)
      ·
        have hiN : i = 12 := by omega
        subst hiN
        refine g_aload_n C 2 rfl rfl dX5_clearsAll_46 ?_
        refine g_callV0 [] C (c_X5_clearsCounters w tu (us sg 45 (fw 12 (fun _ => nI 0) (sg 45) 12))  ) mt_X5_clearsCounters e_44 rfl ml_X5_74 im_X5_clearsCounters se_X5_clearsCounters (by decide) rfl (Nat.le_of_ble_eq_true rfl) dX5_clearsAll_47 ?_
        refine g_eq (sg' := (us (us sg 45 (fw 12 (fun _ => nI 0) (sg 45) 12)) 45 (fw 24 (fun _ => nI 0) (fw 12 (fun _ => nI 0) (sg 45) 12) 7))) (L' := [(2, .int (nI 12)), (1, .int m), (0, .ref (ad w 44))]) (S' := []) rfl rfl rfl rfl ?_
        refine g_sgE (sg' := (us sg 45 (fw 24 (fun _ => nI 0) (fw 12 (fun _ => nI 0) (sg 45) 12) 7))) us_us ?_
        refine g_iload_n C 1 rfl rfl dX5_clearsAll_50 ?_
        exact g_iret C E dX5_clearsAll_51 hI Sq.rf rfl
      ·
        refine g_iload_n C 1 rfl rfl dX5_clearsAll_10 ?_
        refine g_aload_n C 2 rfl rfl dX5_clearsAll_11 ?_
        refine g_getR C (j := 0) cls5 e_44 rfl (by decide) fl_X5_7 dX5_clearsAll_12 ?_
        refine g_bipush C (v := (nI 12)) (by decide) dX5_clearsAll_15 ?_
        refine g_iload_n C 0 rfl rfl dX5_clearsAll_17 ?_
        refine g_iadd C dX5_clearsAll_18 ?_
        refine g_top (y := (nI (12 + i))) (nI_add 12 i) ?_
        refine g_ialdN C (12 + i) e_45 (by omega) (by decide) dX5_clearsAll_19 ?_
        refine g_top (y := ((fw 12 (fun _ => nI 0) (sg 45) i) (12 + i))) rfl ?_
        refine g_top (y := (sg 45 (12 + i))) (fw_out (by omega)) ?_
        refine g_if_eq C (tgt := 27) (by decide) dX5_clearsAll_20 (fun h20 => ?_) (fun h20 => ?_)
        ·
          refine g_iconst C (v := (nI 0)) (by decide) dX5_clearsAll_27 ?_
          refine g_iadd C dX5_clearsAll_28 ?_
          refine g_istore_n C (L' := [(1, .int (m + (nI 0))), (2, .int (nI i)), (0, .ref (ad w 44))]) rfl (by decide) rfl dX5_clearsAll_29 ?_
          refine g_aload_n C 2 rfl rfl dX5_clearsAll_30 ?_
          refine g_getR C (j := 0) cls5 e_44 rfl (by decide) fl_X5_7 dX5_clearsAll_31 ?_
          refine g_bipush C (v := (nI 12)) (by decide) dX5_clearsAll_34 ?_
          refine g_iload_n C 1 rfl rfl dX5_clearsAll_36 ?_
          refine g_iadd C dX5_clearsAll_37 ?_
          refine g_top (y := (nI (12 + i))) (nI_add 12 i) ?_
          refine g_iconst C (v := (nI 0)) (by decide) dX5_clearsAll_38 ?_
          refine g_iastN C (12 + i) e_45 (by omega) (by decide) dX5_clearsAll_39 ?_
          refine g_sgE (sg' := (us sg 45 (upd (fw 12 (fun _ => nI 0) (sg 45) i) (12 + i) (nI 0)))) us_us ?_
          refine g_iinc C (n := 1) (v := (nI (i + 1))) (L' := [(2, .int (nI (i + 1))), (1, .int (m + (nI 0))), (0, .ref (ad w 44))]) 1 rfl (nI_add i 1) (by decide) rfl dX5_clearsAll_40 ?_
          refine g_goto C (tgt := 4) (by decide) dX5_clearsAll_43 ?_
          refine g_sub (L' := [(2, .int (nI (i + 1))), (1, .int (m + (nI 0))), (0, .ref (ad w 44))]) [0, 1, 2] rfl ?_
          refine g_sgE (sg' := (us sg 45 (fw 12 (fun _ => nI 0) (sg 45) (i + 1)))) (congrArg (us sg 45) (fw_s rfl)) ?_
          exact ih (i + 1) (m + (nI 0)) (by omega) (by omega) (by rw [hI, czX_t (by first | exact h20 | exact fun q => h20 q)])
        ·
          refine g_iconst C (v := (nI 1)) (by decide) dX5_clearsAll_23 ?_
          refine g_goto C (tgt := 28) (by decide) dX5_clearsAll_24 ?_
          refine g_iadd C dX5_clearsAll_28 ?_
          refine g_istore_n C (L' := [(1, .int (m + (nI 1))), (2, .int (nI i)), (0, .ref (ad w 44))]) rfl (by decide) rfl dX5_clearsAll_29 ?_
          refine g_aload_n C 2 rfl rfl dX5_clearsAll_30 ?_
          refine g_getR C (j := 0) cls5 e_44 rfl (by decide) fl_X5_7 dX5_clearsAll_31 ?_
          refine g_bipush C (v := (nI 12)) (by decide) dX5_clearsAll_34 ?_
          refine g_iload_n C 1 rfl rfl dX5_clearsAll_36 ?_
          refine g_iadd C dX5_clearsAll_37 ?_
          refine g_top (y := (nI (12 + i))) (nI_add 12 i) ?_
          refine g_iconst C (v := (nI 0)) (by decide) dX5_clearsAll_38 ?_
          refine g_iastN C (12 + i) e_45 (by omega) (by decide) dX5_clearsAll_39 ?_
          refine g_sgE (sg' := (us sg 45 (upd (fw 12 (fun _ => nI 0) (sg 45) i) (12 + i) (nI 0)))) us_us ?_
          refine g_iinc C (n := 1) (v := (nI (i + 1))) (L' := [(2, .int (nI (i + 1))), (1, .int (m + (nI 1))), (0, .ref (ad w 44))]) 1 rfl (nI_add i 1) (by decide) rfl dX5_clearsAll_40 ?_
          refine g_goto C (tgt := 4) (by decide) dX5_clearsAll_43 ?_
          refine g_sub (L' := [(2, .int (nI (i + 1))), (1, .int (m + (nI 1))), (0, .ref (ad w 44))]) [0, 1, 2] rfl ?_
          refine g_sgE (sg' := (us sg 45 (fw 12 (fun _ => nI 0) (sg 45) (i + 1)))) (congrArg (us sg 45) (fw_s rfl)) ?_
          exact ih (i + 1) (m + (nI 1)) (by omega) (by omega) (by rw [hI, czX_f (by first | exact h20 | exact fun q => h20 q)])
  refine g_sgE (sg' := (us sg 45 (fw 12 (fun _ => nI 0) (sg 45) 0))) (by rw [fw_0, us_id]) ?_
  exact lp (12 + 1) 0 (nI 0) (by omega) (by omega) rfl
set_option maxRecDepth 100000 in
set_option maxHeartbeats 4000000 in
theorem c_X5_putDigit_ok (w : GW) (tu : Int64) (sg : Sg) (j : Nat) (n : Nat) (hj : j < 6) (hn : n ≤ 9) : Kt w yX5_putDigit cX5_putDigit 3 (some .int) 2 [.ref (ad w 44), .int (nI j), .int (nI n)] sg tu (some (.int (sg 45 j))) (us sg 45 (upd (sg 45) j (nI n))) tu := by
  refine Kt.of2 RX5 rfl [(0, .ref (ad w 44)), (1, .int (nI j)), (2, .int (nI n))] (by decide) rfl (Nat.le_of_ble_eq_true rfl) (fun z C E => ?_)
  refine g_iload_n C 1 rfl rfl dX5_putDigit_0 ?_
  refine g_callS1 [] C (c_X5_isDrum_t w tu sg j (by omega)) mt_X5_isDrum ml_X5_90 st_X5_isDrum (by decide) rfl (Nat.le_of_ble_eq_true rfl) dX5_putDigit_1 ?_
  refine g_eq (L' := [(0, .ref (ad w 44)), (1, .int (nI j)), (2, .int (nI n))]) (S' := [.int (nI 1)]) rfl rfl rfl rfl ?_
  refine g_if_eq C (tgt := 30) (by decide) dX5_putDigit_4 (fun h4 => absurd h4 (by decide)) (fun h4 => ?_)
  refine g_iload_n C 2 rfl rfl dX5_putDigit_7 ?_
  refine g_i2l C dX5_putDigit_8 ?_
  refine g_lconst C (v := 0) (by decide) dX5_putDigit_9 ?_
  refine g_ldc2 C cn_X5_94 dX5_putDigit_10 ?_
  refine g_callS1 [] C (c_X5_in_t w tu sg (Int32.toInt64 (nI n)) 0 9 (in_ok (n := 9) (by omega) (by decide))) mt_X5_in ml_X5_53 st_X5_in (by decide) rfl (Nat.le_of_ble_eq_true rfl) dX5_putDigit_13 ?_
  refine g_eq (L' := [(0, .ref (ad w 44)), (1, .int (nI j)), (2, .int (nI n))]) (S' := [.int (nI 1)]) rfl rfl rfl rfl ?_
  refine g_if_eq C (tgt := 30) (by decide) dX5_putDigit_16 (fun h16 => absurd h16 (by decide)) (fun h16 => ?_)
  refine g_aload_n C 0 rfl rfl dX5_putDigit_19 ?_
  refine g_iconst C (v := (nI 0)) (by decide) dX5_putDigit_20 ?_
  refine g_iload_n C 1 rfl rfl dX5_putDigit_21 ?_
  refine g_iadd C dX5_putDigit_22 ?_
  refine g_top (y := (nI j)) (by rw [nI_add, Nat.zero_add]) ?_
  refine g_iload_n C 2 rfl rfl dX5_putDigit_23 ?_
  refine g_callV1 [] C (c_X5_change w tu sg j (nI n) (by omega)) mt_X5_change e_44 rfl ml_X5_96 im_X5_change se_X5_change (by decide) rfl (Nat.le_of_ble_eq_true rfl) dX5_putDigit_24 ?_
  refine g_eq (sg' := (us sg 45 (upd (sg 45) j (nI n)))) (L' := [(0, .ref (ad w 44)), (1, .int (nI j)), (2, .int (nI n))]) (S' := [.int (sg 45 j)]) rfl rfl rfl rfl ?_
  refine g_goto C (tgt := 32) (by decide) dX5_putDigit_27 ?_
  exact g_iret C E dX5_putDigit_32 rfl Sq.rf rfl
set_option maxRecDepth 100000 in
set_option maxHeartbeats 4000000 in
theorem c_X5_putDigit_bad (w : GW) (tu : Int64) (sg : Sg) (x : Int32) (v : Int32) (h : ¬ ((0 ≤ Int32.toInt64 x ∧ Int32.toInt64 x ≤ 5) ∧ (0 ≤ Int32.toInt64 v ∧ Int32.toInt64 v ≤ 9))) : Kt w yX5_putDigit cX5_putDigit 3 (some .int) 2 [.ref (ad w 44), .int x, .int v] sg tu (some (.int (-2))) sg tu := by
  refine Kt.of2 RX5 rfl [(0, .ref (ad w 44)), (1, .int x), (2, .int v)] (by decide) rfl (Nat.le_of_ble_eq_true rfl) (fun z C E => ?_)
  refine g_iload_n C 1 rfl rfl dX5_putDigit_0 ?_
  refine g_callS1 [] C (c_X5_isDrum w tu sg x ) mt_X5_isDrum ml_X5_90 st_X5_isDrum (by decide) rfl (Nat.le_of_ble_eq_true rfl) dX5_putDigit_1 ?_
  refine g_eq (L' := [(0, .ref (ad w 44)), (1, .int x), (2, .int v)]) (S' := [.int (bI (0 ≤ Int32.toInt64 x ∧ Int32.toInt64 x ≤ 5))]) rfl rfl rfl rfl ?_
  refine g_bif_eq C (tgt := 30) (by decide) dX5_putDigit_4 (fun h4 => ?_) (fun h4 => ?_)
  ·
    refine g_bipush C (v := (-2)) (by decide) dX5_putDigit_30 ?_
    exact g_iret C E dX5_putDigit_32 rfl Sq.rf rfl
  ·
    refine g_iload_n C 2 rfl rfl dX5_putDigit_7 ?_
    refine g_i2l C dX5_putDigit_8 ?_
    refine g_lconst C (v := 0) (by decide) dX5_putDigit_9 ?_
    refine g_ldc2 C cn_X5_94 dX5_putDigit_10 ?_
    refine g_callS1 [] C (c_X5_in w tu sg (Int32.toInt64 v) 0 9 ) mt_X5_in ml_X5_53 st_X5_in (by decide) rfl (Nat.le_of_ble_eq_true rfl) dX5_putDigit_13 ?_
    refine g_eq (L' := [(0, .ref (ad w 44)), (1, .int x), (2, .int v)]) (S' := [.int (bI (0 ≤ (Int32.toInt64 v) ∧ (Int32.toInt64 v) ≤ 9))]) rfl rfl rfl rfl ?_
    refine g_bif_eq C (tgt := 30) (by decide) dX5_putDigit_16 (fun h16 => ?_) (fun h16 => absurd ⟨h4, h16⟩ h)
    refine g_bipush C (v := (-2)) (by decide) dX5_putDigit_30 ?_
    exact g_iret C E dX5_putDigit_32 rfl Sq.rf rfl
set_option maxRecDepth 100000 in
set_option maxHeartbeats 4000000 in
theorem c_X5_putShift_ok (w : GW) (tu : Int64) (sg : Sg) (n : Nat) (hn : n ≤ 6) : Kt w yX5_putShift cX5_putShift 2 (some .int) 1 [.ref (ad w 44), .int (nI n)] sg tu (some (.int (sg 45 31))) (us sg 45 (upd (sg 45) 31 (nI n))) tu := by
  refine Kt.of2 RX5 rfl [(0, .ref (ad w 44)), (1, .int (nI n))] (by decide) rfl (Nat.le_of_ble_eq_true rfl) (fun z C E => ?_)
  refine g_iload_n C 1 rfl rfl dX5_putShift_0 ?_
  refine g_i2l C dX5_putShift_1 ?_
  refine g_lconst C (v := 0) (by decide) dX5_putShift_2 ?_
  refine g_ldc2 C cn_X5_99 dX5_putShift_3 ?_
  refine g_callS1 [] C (c_X5_in_t w tu sg (Int32.toInt64 (nI n)) 0 6 (in_ok (n := 6) (by omega) (by decide))) mt_X5_in ml_X5_53 st_X5_in (by decide) rfl (Nat.le_of_ble_eq_true rfl) dX5_putShift_6 ?_
  refine g_eq (L' := [(0, .ref (ad w 44)), (1, .int (nI n))]) (S' := [.int (nI 1)]) rfl rfl rfl rfl ?_
  refine g_if_eq C (tgt := 22) (by decide) dX5_putShift_9 (fun h9 => absurd h9 (by decide)) (fun h9 => ?_)
  refine g_aload_n C 0 rfl rfl dX5_putShift_12 ?_
  refine g_bipush C (v := (nI 31)) (by decide) dX5_putShift_13 ?_
  refine g_iload_n C 1 rfl rfl dX5_putShift_15 ?_
  refine g_callV1 [] C (c_X5_change w tu sg 31 (nI n) (by omega)) mt_X5_change e_44 rfl ml_X5_96 im_X5_change se_X5_change (by decide) rfl (Nat.le_of_ble_eq_true rfl) dX5_putShift_16 ?_
  refine g_eq (sg' := (us sg 45 (upd (sg 45) 31 (nI n)))) (L' := [(0, .ref (ad w 44)), (1, .int (nI n))]) (S' := [.int (sg 45 31)]) rfl rfl rfl rfl ?_
  refine g_goto C (tgt := 24) (by decide) dX5_putShift_19 ?_
  exact g_iret C E dX5_putShift_24 rfl Sq.rf rfl
set_option maxRecDepth 100000 in
set_option maxHeartbeats 4000000 in
theorem c_X5_putShift_bad (w : GW) (tu : Int64) (sg : Sg) (v : Int32) (h : ¬ (0 ≤ Int32.toInt64 v ∧ Int32.toInt64 v ≤ 6)) : Kt w yX5_putShift cX5_putShift 2 (some .int) 1 [.ref (ad w 44), .int v] sg tu (some (.int (-2))) sg tu := by
  refine Kt.of2 RX5 rfl [(0, .ref (ad w 44)), (1, .int v)] (by decide) rfl (Nat.le_of_ble_eq_true rfl) (fun z C E => ?_)
  refine g_iload_n C 1 rfl rfl dX5_putShift_0 ?_
  refine g_i2l C dX5_putShift_1 ?_
  refine g_lconst C (v := 0) (by decide) dX5_putShift_2 ?_
  refine g_ldc2 C cn_X5_99 dX5_putShift_3 ?_
  refine g_callS1 [] C (c_X5_in w tu sg (Int32.toInt64 v) 0 6 ) mt_X5_in ml_X5_53 st_X5_in (by decide) rfl (Nat.le_of_ble_eq_true rfl) dX5_putShift_6 ?_
  refine g_eq (L' := [(0, .ref (ad w 44)), (1, .int v)]) (S' := [.int (bI (0 ≤ (Int32.toInt64 v) ∧ (Int32.toInt64 v) ≤ 6))]) rfl rfl rfl rfl ?_
  refine g_bif_eq C (tgt := 22) (by decide) dX5_putShift_9 (fun h9 => ?_) (fun h9 => absurd h9 h)
  refine g_bipush C (v := (-2)) (by decide) dX5_putShift_22 ?_
  exact g_iret C E dX5_putShift_24 rfl Sq.rf rfl
set_option maxRecDepth 100000 in
set_option maxHeartbeats 4000000 in
theorem c_X5_putReach_ok (w : GW) (tu : Int64) (sg : Sg) (n : Nat) (hn : n ≤ 12) : Kt w yX5_putReach cX5_putReach 2 (some .int) 1 [.ref (ad w 44), .int (nI n)] sg tu (some (.int (sg 45 32))) (us sg 45 (upd (sg 45) 32 (nI n))) tu := by
  refine Kt.of2 RX5 rfl [(0, .ref (ad w 44)), (1, .int (nI n))] (by decide) rfl (Nat.le_of_ble_eq_true rfl) (fun z C E => ?_)
  refine g_iload_n C 1 rfl rfl dX5_putReach_0 ?_
  refine g_i2l C dX5_putReach_1 ?_
  refine g_lconst C (v := 0) (by decide) dX5_putReach_2 ?_
  refine g_ldc2 C cn_X5_101 dX5_putReach_3 ?_
  refine g_callS1 [] C (c_X5_in_t w tu sg (Int32.toInt64 (nI n)) 0 12 (in_ok (n := 12) (by omega) (by decide))) mt_X5_in ml_X5_53 st_X5_in (by decide) rfl (Nat.le_of_ble_eq_true rfl) dX5_putReach_6 ?_
  refine g_eq (L' := [(0, .ref (ad w 44)), (1, .int (nI n))]) (S' := [.int (nI 1)]) rfl rfl rfl rfl ?_
  refine g_if_eq C (tgt := 22) (by decide) dX5_putReach_9 (fun h9 => absurd h9 (by decide)) (fun h9 => ?_)
  refine g_aload_n C 0 rfl rfl dX5_putReach_12 ?_
  refine g_bipush C (v := (nI 32)) (by decide) dX5_putReach_13 ?_
  refine g_iload_n C 1 rfl rfl dX5_putReach_15 ?_
  refine g_callV1 [] C (c_X5_change w tu sg 32 (nI n) (by omega)) mt_X5_change e_44 rfl ml_X5_96 im_X5_change se_X5_change (by decide) rfl (Nat.le_of_ble_eq_true rfl) dX5_putReach_16 ?_
  refine g_eq (sg' := (us sg 45 (upd (sg 45) 32 (nI n)))) (L' := [(0, .ref (ad w 44)), (1, .int (nI n))]) (S' := [.int (sg 45 32)]) rfl rfl rfl rfl ?_
  refine g_goto C (tgt := 24) (by decide) dX5_putReach_19 ?_
  exact g_iret C E dX5_putReach_24 rfl Sq.rf rfl
set_option maxRecDepth 100000 in
set_option maxHeartbeats 4000000 in
theorem c_X5_putReach_bad (w : GW) (tu : Int64) (sg : Sg) (v : Int32) (h : ¬ (0 ≤ Int32.toInt64 v ∧ Int32.toInt64 v ≤ 12)) : Kt w yX5_putReach cX5_putReach 2 (some .int) 1 [.ref (ad w 44), .int v] sg tu (some (.int (-2))) sg tu := by
  refine Kt.of2 RX5 rfl [(0, .ref (ad w 44)), (1, .int v)] (by decide) rfl (Nat.le_of_ble_eq_true rfl) (fun z C E => ?_)
  refine g_iload_n C 1 rfl rfl dX5_putReach_0 ?_
  refine g_i2l C dX5_putReach_1 ?_
  refine g_lconst C (v := 0) (by decide) dX5_putReach_2 ?_
  refine g_ldc2 C cn_X5_101 dX5_putReach_3 ?_
  refine g_callS1 [] C (c_X5_in w tu sg (Int32.toInt64 v) 0 12 ) mt_X5_in ml_X5_53 st_X5_in (by decide) rfl (Nat.le_of_ble_eq_true rfl) dX5_putReach_6 ?_
  refine g_eq (L' := [(0, .ref (ad w 44)), (1, .int v)]) (S' := [.int (bI (0 ≤ (Int32.toInt64 v) ∧ (Int32.toInt64 v) ≤ 12))]) rfl rfl rfl rfl ?_
  refine g_bif_eq C (tgt := 22) (by decide) dX5_putReach_9 (fun h9 => ?_) (fun h9 => absurd h9 h)
  refine g_bipush C (v := (-2)) (by decide) dX5_putReach_22 ?_
  exact g_iret C E dX5_putReach_24 rfl Sq.rf rfl
set_option maxRecDepth 100000 in
set_option maxHeartbeats 4000000 in
theorem c_X5_putWorn_ok (w : GW) (tu : Int64) (sg : Sg) (j : Nat) (t : Nat) (hj : j < 6) (ht1 : 1 ≤ t) (ht : t ≤ 9) : Kt w yX5_putWorn cX5_putWorn 3 (some .int) 2 [.ref (ad w 44), .int (nI j), .int (nI t)] sg tu (some (.int (wmX ((sg 45 (6 + j)) ^^^ (nI 1 <<< ((nI t) &&& 31))) 10))) (us sg 45 (upd (sg 45) (6 + j) ((sg 45 (6 + j)) ^^^ (nI 1 <<< ((nI t) &&& 31))))) tu := by
  refine Kt.of2 RX5 rfl [(0, .ref (ad w 44)), (1, .int (nI j)), (2, .int (nI t))] (by decide) rfl (Nat.le_of_ble_eq_true rfl) (fun z C E => ?_)
  refine g_iload_n C 1 rfl rfl dX5_putWorn_0 ?_
  refine g_callS1 [] C (c_X5_isDrum_t w tu sg j (by omega)) mt_X5_isDrum ml_X5_90 st_X5_isDrum (by decide) rfl (Nat.le_of_ble_eq_true rfl) dX5_putWorn_1 ?_
  refine g_eq (L' := [(0, .ref (ad w 44)), (1, .int (nI j)), (2, .int (nI t))]) (S' := [.int (nI 1)]) rfl rfl rfl rfl ?_
  refine g_if_eq C (tgt := 19) (by decide) dX5_putWorn_4 (fun h4 => absurd h4 (by decide)) (fun h4 => ?_)
  refine g_iload_n C 2 rfl rfl dX5_putWorn_7 ?_
  refine g_i2l C dX5_putWorn_8 ?_
  refine g_lconst C (v := 1) (by decide) dX5_putWorn_9 ?_
  refine g_ldc2 C cn_X5_94 dX5_putWorn_10 ?_
  refine g_callS1 [] C (c_X5_in_t w tu sg (Int32.toInt64 (nI t)) 1 9 (in_ok1 (n := 9) (by omega) (by omega) (by decide))) mt_X5_in ml_X5_53 st_X5_in (by decide) rfl (Nat.le_of_ble_eq_true rfl) dX5_putWorn_13 ?_
  refine g_eq (L' := [(0, .ref (ad w 44)), (1, .int (nI j)), (2, .int (nI t))]) (S' := [.int (nI 1)]) rfl rfl rfl rfl ?_
  refine g_if_ne C (tgt := 22) (by decide) dX5_putWorn_16 (fun h16 => ?_) (fun h16 => absurd h16 (by decide))
  refine g_aload_n C 0 rfl rfl dX5_putWorn_22 ?_
  refine g_getR C (j := 0) cls5 e_44 rfl (by decide) fl_X5_7 dX5_putWorn_23 ?_
  refine g_bipush C (v := (nI 6)) (by decide) dX5_putWorn_26 ?_
  refine g_iload_n C 1 rfl rfl dX5_putWorn_28 ?_
  refine g_iadd C dX5_putWorn_29 ?_
  refine g_top (y := (nI (6 + j))) (nI_add 6 j) ?_
  refine g_dup2 C rfl rfl dX5_putWorn_30 ?_
  refine g_ialdN C (6 + j) e_45 (by omega) (by decide) dX5_putWorn_31 ?_
  refine g_iconst C (v := (nI 1)) (by decide) dX5_putWorn_32 ?_
  refine g_iload_n C 2 rfl rfl dX5_putWorn_33 ?_
  refine g_ishl C dX5_putWorn_34 ?_
  refine g_ixor C dX5_putWorn_35 ?_
  refine g_iastN C (6 + j) e_45 (by omega) (by decide) dX5_putWorn_36 ?_
  refine g_sgE (sg' := (us sg 45 (upd (sg 45) (6 + j) ((sg 45 (6 + j)) ^^^ ((nI 1) <<< ((nI t) &&& 31)))))) rfl ?_
  refine g_aload_n C 0 rfl rfl dX5_putWorn_37 ?_
  refine g_getR C (j := 0) cls5 e_44 rfl (by decide) fl_X5_7 dX5_putWorn_38 ?_
  refine g_bipush C (v := (nI 6)) (by decide) dX5_putWorn_41 ?_
  refine g_iload_n C 1 rfl rfl dX5_putWorn_43 ?_
  refine g_iadd C dX5_putWorn_44 ?_
  refine g_top (y := (nI (6 + j))) (nI_add 6 j) ?_
  refine g_ialdN C (6 + j) e_45 (by omega) (by decide) dX5_putWorn_45 ?_
  refine g_top (y := ((sg 45 (6 + j)) ^^^ ((nI 1) <<< ((nI t) &&& 31)))) (show upd _ _ _ _ = _ from upd_same) ?_
  refine g_callS1 [] C (c_X5_wornMany w tu (us sg 45 (upd (sg 45) (6 + j) ((sg 45 (6 + j)) ^^^ ((nI 1) <<< ((nI t) &&& 31))))) ((sg 45 (6 + j)) ^^^ ((nI 1) <<< ((nI t) &&& 31))) ) mt_X5_wornMany ml_X5_103 st_X5_wornMany (by decide) rfl (Nat.le_of_ble_eq_true rfl) dX5_putWorn_46 ?_
  refine g_eq (L' := [(0, .ref (ad w 44)), (1, .int (nI j)), (2, .int (nI t))]) (S' := [.int (wmX ((sg 45 (6 + j)) ^^^ ((nI 1) <<< ((nI t) &&& 31))) 10)]) rfl rfl rfl rfl ?_
  exact g_iret C E dX5_putWorn_49 rfl Sq.rf rfl
set_option maxRecDepth 100000 in
set_option maxHeartbeats 4000000 in
theorem c_X5_putWorn_bad (w : GW) (tu : Int64) (sg : Sg) (x : Int32) (v : Int32) (h : ¬ ((0 ≤ Int32.toInt64 x ∧ Int32.toInt64 x ≤ 5) ∧ (1 ≤ Int32.toInt64 v ∧ Int32.toInt64 v ≤ 9))) : Kt w yX5_putWorn cX5_putWorn 3 (some .int) 2 [.ref (ad w 44), .int x, .int v] sg tu (some (.int (-2))) sg tu := by
  refine Kt.of2 RX5 rfl [(0, .ref (ad w 44)), (1, .int x), (2, .int v)] (by decide) rfl (Nat.le_of_ble_eq_true rfl) (fun z C E => ?_)
  refine g_iload_n C 1 rfl rfl dX5_putWorn_0 ?_
  refine g_callS1 [] C (c_X5_isDrum w tu sg x ) mt_X5_isDrum ml_X5_90 st_X5_isDrum (by decide) rfl (Nat.le_of_ble_eq_true rfl) dX5_putWorn_1 ?_
  refine g_eq (L' := [(0, .ref (ad w 44)), (1, .int x), (2, .int v)]) (S' := [.int (bI (0 ≤ Int32.toInt64 x ∧ Int32.toInt64 x ≤ 5))]) rfl rfl rfl rfl ?_
  refine g_bif_eq C (tgt := 19) (by decide) dX5_putWorn_4 (fun h4 => ?_) (fun h4 => ?_)
  ·
    refine g_bipush C (v := (-2)) (by decide) dX5_putWorn_19 ?_
    exact g_iret C E dX5_putWorn_21 rfl Sq.rf rfl
  ·
    refine g_iload_n C 2 rfl rfl dX5_putWorn_7 ?_
    refine g_i2l C dX5_putWorn_8 ?_
    refine g_lconst C (v := 1) (by decide) dX5_putWorn_9 ?_
    refine g_ldc2 C cn_X5_94 dX5_putWorn_10 ?_
    refine g_callS1 [] C (c_X5_in w tu sg (Int32.toInt64 v) 1 9 ) mt_X5_in ml_X5_53 st_X5_in (by decide) rfl (Nat.le_of_ble_eq_true rfl) dX5_putWorn_13 ?_
    refine g_eq (L' := [(0, .ref (ad w 44)), (1, .int x), (2, .int v)]) (S' := [.int (bI (1 ≤ (Int32.toInt64 v) ∧ (Int32.toInt64 v) ≤ 9))]) rfl rfl rfl rfl ?_
    refine g_bif_ne C (tgt := 22) (by decide) dX5_putWorn_16 (fun h16 => absurd ⟨h4, h16⟩ h) (fun h16 => ?_)
    refine g_bipush C (v := (-2)) (by decide) dX5_putWorn_19 ?_
    exact g_iret C E dX5_putWorn_21 rfl Sq.rf rfl
set_option maxRecDepth 100000 in
set_option maxHeartbeats 4000000 in
theorem c_X5_number_dig (w : GW) (tu : Int64) (sg : Sg) : Kt w yX5_number cX5_number 5 (some .int) 0 [.ref (ad w 45), .int (nI 0), .int (nI 6)] sg tu (some (.int (nbX (sg 45) 0 6 (nI 0)))) sg tu := by
  refine Kt.of2 RX5 rfl [(0, .ref (ad w 45)), (1, .int (nI 0)), (2, .int (nI 6))] (by decide) rfl (Nat.le_of_ble_eq_true rfl) (fun z C E => ?_)
  refine g_iconst C (v := (nI 0)) (by decide) dX5_number_0 ?_
  refine g_istore_n C (L' := [(3, .int (nI 0)), (0, .ref (ad w 45)), (1, .int (nI 0)), (2, .int (nI 6))]) rfl (by decide) rfl dX5_number_1 ?_
  refine g_iload_n C 3 rfl rfl dX5_number_2 ?_
  refine g_iconst C (v := (nI 1)) (by decide) dX5_number_3 ?_
  refine g_isub C dX5_number_4 ?_
  refine g_top (y := (nI 5)) (by decide) ?_
  refine g_istore C (L' := [(4, .int (nI 5)), (3, .int (nI 0)), (0, .ref (ad w 45)), (1, .int (nI 0)), (2, .int (nI 6))]) (by decide) rfl dX5_number_5 ?_
  have lp : ∀ (r : Nat) (v : Int32), r ≤ 6 → (nbX (sg 45) 0 r v = nbX (sg 45) 0 6 (nI 0)) → G z w 5 sg tu 7 [(4, .int (nI r + (-1))), (3, .int v), (0, .ref (ad w 45)), (1, .int (nI 0)), (2, .int (nI 6))] [] := by
    intro r
    induction r with
    | zero =>
      intro v h2 hI
      refine g_iload C 0 rfl dX5_number_7 ?_
      refine g_if_lt C (tgt := 30) (by decide) dX5_number_9 (fun h9 => ?_) (fun h9 => absurd (by decide) h9)
      refine g_iload_n C 1 rfl rfl dX5_number_30 ?_
      exact g_iret C E dX5_number_31 hI Sq.rf rfl
    | succ r ih =>
      intro v h2 hI
      refine g_eq (L' := [(4, .int (nI r)), (3, .int v), (0, .ref (ad w 45)), (1, .int (nI 0)), (2, .int (nI 6))]) rfl rfl (by rw [pk_m1]) rfl ?_
      refine g_iload C 0 rfl dX5_number_7 ?_
      refine g_if_lt C (tgt := 30) (by decide) dX5_number_9 (fun h9 => absurd h9 (nI_pos (by omega))) (fun h9 => ?_)
      refine g_bipush C (v := (nI 10)) (by decide) dX5_number_12 ?_
      refine g_iload_n C 1 rfl rfl dX5_number_14 ?_
      refine g_imul C dX5_number_15 ?_
      refine g_aload_n C 2 rfl rfl dX5_number_16 ?_
      refine g_iload_n C 3 rfl rfl dX5_number_17 ?_
      refine g_iload C 0 rfl dX5_number_18 ?_
      refine g_iadd C dX5_number_20 ?_
      refine g_top (y := (nI r)) (by rw [nI_add, Nat.zero_add]) ?_
      refine g_ialdN C r e_45 (by omega) (by decide) dX5_number_21 ?_
      refine g_iadd C dX5_number_22 ?_
      refine g_istore_n C (L' := [(3, .int (((nI 10) * v) + (sg 45 r))), (4, .int (nI r)), (0, .ref (ad w 45)), (1, .int (nI 0)), (2, .int (nI 6))]) rfl (by decide) rfl dX5_number_23 ?_
      refine g_iinc C (n := -1) (v := ((nI r) + (-1))) (L' := [(4, .int ((nI r) + (-1))), (3, .int (((nI 10) * v) + (sg 45 r))), (0, .ref (ad w 45)), (1, .int (nI 0)), (2, .int (nI 6))]) 1 rfl rfl (by decide) rfl dX5_number_24 ?_
      refine g_goto C (tgt := 7) (by decide) dX5_number_27 ?_
      refine g_sub (L' := [(4, .int ((nI r) + (-1))), (3, .int (((nI 10) * v) + (sg 45 r))), (0, .ref (ad w 45)), (1, .int (nI 0)), (2, .int (nI 6))]) [0, 1, 2, 3, 4] rfl ?_
      exact ih (((nI 10) * v) + (sg 45 r)) (by omega) (by have h9 := hI; unfold nbX at h9; rw [Nat.zero_add] at h9; exact h9)
  refine g_eq (L' := [(4, .int (nI 6 + (-1))), (3, .int (nI 0)), (0, .ref (ad w 45)), (1, .int (nI 0)), (2, .int (nI 6))]) rfl rfl rfl rfl ?_
  refine g_sub (L' := [(4, .int (nI 6 + (-1))), (3, .int (nI 0)), (0, .ref (ad w 45)), (1, .int (nI 0)), (2, .int (nI 6))]) [0, 1, 2, 3, 4] rfl ?_
  exact lp 6 (nI 0) (by omega) rfl
set_option maxRecDepth 100000 in
set_option maxHeartbeats 4000000 in
theorem c_X5_number_cnt (w : GW) (tu : Int64) (sg : Sg) : Kt w yX5_number cX5_number 5 (some .int) 0 [.ref (ad w 45), .int (nI 24), .int (nI 7)] sg tu (some (.int (nbX (sg 45) 24 7 (nI 0)))) sg tu := by
  refine Kt.of2 RX5 rfl [(0, .ref (ad w 45)), (1, .int (nI 24)), (2, .int (nI 7))] (by decide) rfl (Nat.le_of_ble_eq_true rfl) (fun z C E => ?_)
  refine g_iconst C (v := (nI 0)) (by decide) dX5_number_0 ?_
  refine g_istore_n C (L' := [(3, .int (nI 0)), (0, .ref (ad w 45)), (1, .int (nI 24)), (2, .int (nI 7))]) rfl (by decide) rfl dX5_number_1 ?_
  refine g_iload_n C 3 rfl rfl dX5_number_2 ?_
  refine g_iconst C (v := (nI 1)) (by decide) dX5_number_3 ?_
  refine g_isub C dX5_number_4 ?_
  refine g_top (y := (nI 6)) (by decide) ?_
  refine g_istore C (L' := [(4, .int (nI 6)), (3, .int (nI 0)), (0, .ref (ad w 45)), (1, .int (nI 24)), (2, .int (nI 7))]) (by decide) rfl dX5_number_5 ?_
  have lp : ∀ (r : Nat) (v : Int32), r ≤ 7 → (nbX (sg 45) 24 r v = nbX (sg 45) 24 7 (nI 0)) → G z w 5 sg tu 7 [(4, .int (nI r + (-1))), (3, .int v), (0, .ref (ad w 45)), (1, .int (nI 24)), (2, .int (nI 7))] [] := by
    intro r
    induction r with
    | zero =>
      intro v h2 hI
      refine g_iload C 0 rfl dX5_number_7 ?_
      refine g_if_lt C (tgt := 30) (by decide) dX5_number_9 (fun h9 => ?_) (fun h9 => absurd (by decide) h9)
      refine g_iload_n C 1 rfl rfl dX5_number_30 ?_
      exact g_iret C E dX5_number_31 hI Sq.rf rfl
    | succ r ih =>
      intro v h2 hI
      refine g_eq (L' := [(4, .int (nI r)), (3, .int v), (0, .ref (ad w 45)), (1, .int (nI 24)), (2, .int (nI 7))]) rfl rfl (by rw [pk_m1]) rfl ?_
      refine g_iload C 0 rfl dX5_number_7 ?_
      refine g_if_lt C (tgt := 30) (by decide) dX5_number_9 (fun h9 => absurd h9 (nI_pos (by omega))) (fun h9 => ?_)
      refine g_bipush C (v := (nI 10)) (by decide) dX5_number_12 ?_
      refine g_iload_n C 1 rfl rfl dX5_number_14 ?_
      refine g_imul C dX5_number_15 ?_
      refine g_aload_n C 2 rfl rfl dX5_number_16 ?_
      refine g_iload_n C 3 rfl rfl dX5_number_17 ?_
      refine g_iload C 0 rfl dX5_number_18 ?_
      refine g_iadd C dX5_number_20 ?_
      refine g_top (y := (nI (24 + r))) (nI_add 24 r) ?_
      refine g_ialdN C (24 + r) e_45 (by omega) (by decide) dX5_number_21 ?_
      refine g_iadd C dX5_number_22 ?_
      refine g_istore_n C (L' := [(3, .int (((nI 10) * v) + (sg 45 (24 + r)))), (4, .int (nI r)), (0, .ref (ad w 45)), (1, .int (nI 24)), (2, .int (nI 7))]) rfl (by decide) rfl dX5_number_23 ?_
      refine g_iinc C (n := -1) (v := ((nI r) + (-1))) (L' := [(4, .int ((nI r) + (-1))), (3, .int (((nI 10) * v) + (sg 45 (24 + r)))), (0, .ref (ad w 45)), (1, .int (nI 24)), (2, .int (nI 7))]) 1 rfl rfl (by decide) rfl dX5_number_24 ?_
      refine g_goto C (tgt := 7) (by decide) dX5_number_27 ?_
      refine g_sub (L' := [(4, .int ((nI r) + (-1))), (3, .int (((nI 10) * v) + (sg 45 (24 + r)))), (0, .ref (ad w 45)), (1, .int (nI 24)), (2, .int (nI 7))]) [0, 1, 2, 3, 4] rfl ?_
      exact ih (((nI 10) * v) + (sg 45 (24 + r))) (by omega) hI
  refine g_eq (L' := [(4, .int (nI 7 + (-1))), (3, .int (nI 0)), (0, .ref (ad w 45)), (1, .int (nI 24)), (2, .int (nI 7))]) rfl rfl rfl rfl ?_
  refine g_sub (L' := [(4, .int (nI 7 + (-1))), (3, .int (nI 0)), (0, .ref (ad w 45)), (1, .int (nI 24)), (2, .int (nI 7))]) [0, 1, 2, 3, 4] rfl ?_
  exact lp 7 (nI 0) (by omega) rfl
set_option maxRecDepth 100000 in
set_option maxHeartbeats 4000000 in
theorem c_X5_number_giv (w : GW) (tu : Int64) (sg : Sg) : Kt w yX5_number cX5_number 5 (some .int) 0 [.ref (ad w 50), .int (nI 0), .int (nI 6)] sg tu (some (.int (nbX (sg 50) 0 6 (nI 0)))) sg tu := by
  refine Kt.of2 RX5 rfl [(0, .ref (ad w 50)), (1, .int (nI 0)), (2, .int (nI 6))] (by decide) rfl (Nat.le_of_ble_eq_true rfl) (fun z C E => ?_)
  refine g_iconst C (v := (nI 0)) (by decide) dX5_number_0 ?_
  refine g_istore_n C (L' := [(3, .int (nI 0)), (0, .ref (ad w 50)), (1, .int (nI 0)), (2, .int (nI 6))]) rfl (by decide) rfl dX5_number_1 ?_
  refine g_iload_n C 3 rfl rfl dX5_number_2 ?_
  refine g_iconst C (v := (nI 1)) (by decide) dX5_number_3 ?_
  refine g_isub C dX5_number_4 ?_
  refine g_top (y := (nI 5)) (by decide) ?_
  refine g_istore C (L' := [(4, .int (nI 5)), (3, .int (nI 0)), (0, .ref (ad w 50)), (1, .int (nI 0)), (2, .int (nI 6))]) (by decide) rfl dX5_number_5 ?_
  have lp : ∀ (r : Nat) (v : Int32), r ≤ 6 → (nbX (sg 50) 0 r v = nbX (sg 50) 0 6 (nI 0)) → G z w 5 sg tu 7 [(4, .int (nI r + (-1))), (3, .int v), (0, .ref (ad w 50)), (1, .int (nI 0)), (2, .int (nI 6))] [] := by
    intro r
    induction r with
    | zero =>
      intro v h2 hI
      refine g_iload C 0 rfl dX5_number_7 ?_
      refine g_if_lt C (tgt := 30) (by decide) dX5_number_9 (fun h9 => ?_) (fun h9 => absurd (by decide) h9)
      refine g_iload_n C 1 rfl rfl dX5_number_30 ?_
      exact g_iret C E dX5_number_31 hI Sq.rf rfl
    | succ r ih =>
      intro v h2 hI
      refine g_eq (L' := [(4, .int (nI r)), (3, .int v), (0, .ref (ad w 50)), (1, .int (nI 0)), (2, .int (nI 6))]) rfl rfl (by rw [pk_m1]) rfl ?_
      refine g_iload C 0 rfl dX5_number_7 ?_
      refine g_if_lt C (tgt := 30) (by decide) dX5_number_9 (fun h9 => absurd h9 (nI_pos (by omega))) (fun h9 => ?_)
      refine g_bipush C (v := (nI 10)) (by decide) dX5_number_12 ?_
      refine g_iload_n C 1 rfl rfl dX5_number_14 ?_
      refine g_imul C dX5_number_15 ?_
      refine g_aload_n C 2 rfl rfl dX5_number_16 ?_
      refine g_iload_n C 3 rfl rfl dX5_number_17 ?_
      refine g_iload C 0 rfl dX5_number_18 ?_
      refine g_iadd C dX5_number_20 ?_
      refine g_top (y := (nI r)) (by rw [nI_add, Nat.zero_add]) ?_
      refine g_ialdN C r e_50 (by omega) (by decide) dX5_number_21 ?_
      refine g_iadd C dX5_number_22 ?_
      refine g_istore_n C (L' := [(3, .int (((nI 10) * v) + (sg 50 r))), (4, .int (nI r)), (0, .ref (ad w 50)), (1, .int (nI 0)), (2, .int (nI 6))]) rfl (by decide) rfl dX5_number_23 ?_
      refine g_iinc C (n := -1) (v := ((nI r) + (-1))) (L' := [(4, .int ((nI r) + (-1))), (3, .int (((nI 10) * v) + (sg 50 r))), (0, .ref (ad w 50)), (1, .int (nI 0)), (2, .int (nI 6))]) 1 rfl rfl (by decide) rfl dX5_number_24 ?_
      refine g_goto C (tgt := 7) (by decide) dX5_number_27 ?_
      refine g_sub (L' := [(4, .int ((nI r) + (-1))), (3, .int (((nI 10) * v) + (sg 50 r))), (0, .ref (ad w 50)), (1, .int (nI 0)), (2, .int (nI 6))]) [0, 1, 2, 3, 4] rfl ?_
      exact ih (((nI 10) * v) + (sg 50 r)) (by omega) (by have h9 := hI; unfold nbX at h9; rw [Nat.zero_add] at h9; exact h9)
  refine g_eq (L' := [(4, .int (nI 6 + (-1))), (3, .int (nI 0)), (0, .ref (ad w 50)), (1, .int (nI 0)), (2, .int (nI 6))]) rfl rfl rfl rfl ?_
  refine g_sub (L' := [(4, .int (nI 6 + (-1))), (3, .int (nI 0)), (0, .ref (ad w 50)), (1, .int (nI 0)), (2, .int (nI 6))]) [0, 1, 2, 3, 4] rfl ?_
  exact lp 6 (nI 0) (by omega) rfl
end
section
/-! A TURN on numbers: one sweep, as the document has it; and the reference's two sweeps -/
def stp (up : Bool) (w a : Nat) : Nat := if up then (if 9 < w + a then w + a - 10 else w + a) else (if w < a then w + 10 - a else w - a)
def cry (up : Bool) (w a : Nat) : Nat := if up then (if 9 < w + a then 1 else 0) else (if w < a then 1 else 0)
/-- the CARRY due to the wheel j places above the shift -/
def crj (up : Bool) (wh g : Nat → Nat) (s last : Nat) : Nat → Nat
  | 0 => 0
  | j + 1 => cry up (wh (s + j)) ((if j < 6 then g j else 0) + (if s + j ≤ last then crj up wh g s last j else 0))
def adj (up : Bool) (wh g : Nat → Nat) (s last j : Nat) : Nat := (if j < 6 then g j else 0) + (if s + j ≤ last then crj up wh g s last j else 0)
def tw (up : Bool) (wh g : Nat → Nat) (s last k : Nat) : Nat := if s ≤ k then stp up (wh k) (adj up wh g s last (k - s)) else wh k
abbrev blP (up : Bool) (wh g : Nat → Nat) (s last : Nat) : Prop := crj up wh g s last (12 - s) = 1 ∧ 12 ≤ last
theorem cry_le {up : Bool} {w a : Nat} : cry up w a ≤ 1 := by
  unfold cry
  split <;> split <;> omega
theorem crj_le {up : Bool} {wh g : Nat → Nat} {s last j : Nat} : crj up wh g s last j ≤ 1 := by
  cases j with
  | zero => exact Nat.zero_le _
  | succ j => exact cry_le
theorem stp_le {up : Bool} {w a : Nat} (hw : w ≤ 9) (ha : a ≤ 10) : stp up w a ≤ 9 := by
  unfold stp
  split <;> split <;> omega
/-- two sweeps on a wheel: what the drum gives, then the CARRY -/
theorem two_sw {up : Bool} {w a c : Nat} (hw : w ≤ 9) (ha : a ≤ 9) (hc : c ≤ 1) : stp up (stp up w a) c = stp up w (a + c) ∧ (cry up w (a + c) = 1 ↔ cry up w a = 1 ∨ cry up (stp up w a) c = 1) := by
  unfold stp cry
  cases up <;> simp only [Bool.false_eq_true, if_false, if_true] <;> split <;> split <;> split <;> refine ⟨by omega, ?_⟩ <;> omega
def p1 (up : Bool) (wh g : Nat → Nat) (s i k : Nat) : Nat := if s ≤ k ∧ k < s + i then stp up (wh k) (g (k - s)) else wh k
/-- the first sweep's due bits -/
def D1 (up : Bool) (wh g : Nat → Nat) (s : Nat) : Nat → Nat
  | 0 => 0
  | i + 1 => if cry up (wh (i + s)) (g i) = 1 then D1 up wh g s i ||| 2 ^ (i + s + 1) else D1 up wh g s i
/-- the wheels in the second sweep, k of them through -/
def q2 (up : Bool) (wh g : Nat → Nat) (s last k m : Nat) : Nat := if m < k then tw up wh g s last m else p1 up wh g s 6 m
/-- wheels put into a row from b on -/
def emb (b : Nat) (v : Nat → Nat) (old : Nat → Int32) : Nat → Int32 := fun j => if b ≤ j ∧ j < b + 12 then nI (v (j - b)) else old j
theorem emb_in {b k : Nat} {v : Nat → Nat} {old : Nat → Int32} (h : k < 12) : emb b v old (b + k) = nI (v k) := by
  unfold emb
  rw [if_pos (by omega), Nat.add_sub_cancel_left]
theorem emb_out {b j : Nat} {v : Nat → Nat} {old : Nat → Int32} (h : ¬ (b ≤ j ∧ j < b + 12)) : emb b v old j = old j := if_neg h
theorem emb_upd {b k x : Nat} {v v' : Nat → Nat} {old : Nat → Int32} (hk : k < 12) (h1 : v' k = x) (h2 : ∀ m, m < 12 → m ≠ k → v' m = v m) : upd (emb b v old) (b + k) (nI x) = emb b v' old := by
  subst h1
  funext j
  unfold emb upd
  by_cases h : j = b + k
  · subst h
    rw [if_pos rfl, if_pos (by omega), Nat.add_sub_cancel_left]
  · rw [if_neg h]
    show (if b ≤ j ∧ j < b + 12 then nI (v (j - b)) else old j) = if b ≤ j ∧ j < b + 12 then nI (v' (j - b)) else old j
    by_cases h3 : b ≤ j ∧ j < b + 12
    · rw [if_pos h3, if_pos h3, h2 (j - b) (by omega) (by omega)]
    · rw [if_neg h3, if_neg h3]
theorem D1_lt {up : Bool} {wh g : Nat → Nat} {s : Nat} (hs : s ≤ 6) : ∀ i, i ≤ 6 → D1 up wh g s i < 2 ^ 13
  | 0, _ => by show 0 < 2 ^ 13; decide
  | i + 1, h => by
    have h1 := D1_lt (up := up) (wh := wh) (g := g) hs i (by omega)
    unfold D1
    split
    · exact Nat.or_lt_two_pow h1 (Nat.pow_lt_pow_right (by decide) (by omega))
    · exact h1
theorem D1_bit {up : Bool} {wh g : Nat → Nat} {s : Nat} : ∀ i m, (D1 up wh g s i).testBit m = decide (s + 1 ≤ m ∧ m < s + 1 + i ∧ cry up (wh (m - 1)) (g (m - 1 - s)) = 1)
  | 0, m => by
    unfold D1
    rw [Nat.zero_testBit]
    symm
    apply decide_eq_false
    omega
  | i + 1, m => by
    have ih := D1_bit (up := up) (wh := wh) (g := g) (s := s) i m
    unfold D1
    by_cases hm : m = i + s + 1
    · subst hm
      have e1 : i + s + 1 - 1 = i + s := by omega
      have e2 : i + s - s = i := by omega
      rw [e1, e2] at ih ⊢
      split
      · rename_i hc
        rw [Nat.testBit_or, ih, Nat.testBit_two_pow_self, Bool.or_true]
        symm
        exact decide_eq_true ⟨by omega, by omega, hc⟩
      · rename_i hc
        rw [ih]
        exact decide_eq_decide.mpr ⟨fun q => ⟨q.1, by omega, q.2.2⟩, fun q => absurd q.2.2 hc⟩
    · have e : decide (s + 1 ≤ m ∧ m < s + 1 + (i + 1) ∧ cry up (wh (m - 1)) (g (m - 1 - s)) = 1) = decide (s + 1 ≤ m ∧ m < s + 1 + i ∧ cry up (wh (m - 1)) (g (m - 1 - s)) = 1) :=
        decide_eq_decide.mpr ⟨fun q => ⟨q.1, by omega, q.2.2⟩, fun q => ⟨q.1, by omega, q.2.2⟩⟩
      rw [e]
      split
      · rw [Nat.testBit_or, ih, Nat.testBit_two_pow_of_ne (Ne.symm hm), Bool.or_false]
      · exact ih
/-- what holds of the due bits in the second sweep at wheel k -/
def D2 (up : Bool) (wh g : Nat → Nat) (s last k D : Nat) : Prop := D < 2 ^ 13 ∧ (D.testBit k = true ↔ crj up wh g s last (k - s) = 1) ∧ ∀ m, k < m → m ≤ 12 → (D.testBit m = true ↔ s + 1 ≤ m ∧ m < s + 7 ∧ cry up (wh (m - 1)) (g (m - 1 - s)) = 1)
theorem D2_0 {up : Bool} {wh g : Nat → Nat} {s last : Nat} (hs : s ≤ 6) : D2 up wh g s last s (D1 up wh g s 6) := by
  refine ⟨D1_lt hs 6 (Nat.le_refl _), ?_, fun m h1 h2 => ?_⟩
  · rw [D1_bit, Nat.sub_self]
    simp only [decide_eq_true_eq]
    exact ⟨fun q => absurd q.1 (by omega), fun q => absurd q (by show ¬ 0 = 1; decide)⟩
  · rw [D1_bit, decide_eq_true_eq]
/-- the second sweep's step -/
theorem q2_s {up : Bool} {wh g : Nat → Nat} {s last k D : Nat} (hw : ∀ k, k < 12 → wh k ≤ 9) (hg : ∀ i, i < 6 → g i ≤ 9) (hsk : s ≤ k) (hk : k < 12) (hl : s + 5 ≤ last) (hD : D2 up wh g s last k D) :
    (D.testBit k = true ∧ k ≤ last → tw up wh g s last k = stp up (q2 up wh g s last k k) 1 ∧ (cry up (q2 up wh g s last k k) 1 = 1 → D2 up wh g s last (k + 1) (D ||| 2 ^ (k + 1))) ∧ (¬ cry up (q2 up wh g s last k k) 1 = 1 → D2 up wh g s last (k + 1) D)) ∧
    (¬ (D.testBit k = true ∧ k ≤ last) → tw up wh g s last k = q2 up wh g s last k k ∧ D2 up wh g s last (k + 1) D) := by
  obtain ⟨hD1, hD2, hD3⟩ := hD
  have hq : q2 up wh g s last k k = p1 up wh g s 6 k := by unfold q2; rw [if_neg (Nat.lt_irrefl k)]
  rw [hq]
  have hwk := hw k hk
  have hnext : (D.testBit (k + 1) = true ↔ k < s + 6 ∧ cry up (wh k) (g (k - s)) = 1) := by
    rw [hD3 (k + 1) (by omega) (by omega)]
    have e1 : k + 1 - 1 = k := rfl
    rw [e1]
    exact ⟨fun q => ⟨by omega, q.2.2⟩, fun q => ⟨by omega, by omega, q.2⟩⟩
  have htw : tw up wh g s last k = stp up (wh k) (adj up wh g s last (k - s)) := by unfold tw; rw [if_pos hsk]
  have hcn : crj up wh g s last (k + 1 - s) = cry up (wh k) (adj up wh g s last (k - s)) := by
    rw [show k + 1 - s = (k - s) + 1 by omega]
    show cry up (wh (s + (k - s))) _ = _
    rw [show s + (k - s) = k by omega]
    unfold adj
    rw [show s + (k - s) = k by omega]
  have hcle := crj_le (up := up) (wh := wh) (g := g) (s := s) (last := last) (j := k - s)
  have hhigh : ∀ m, k + 1 < m → m ≤ 12 → (D.testBit m = true ↔ s + 1 ≤ m ∧ m < s + 7 ∧ cry up (wh (m - 1)) (g (m - 1 - s)) = 1) := fun m h1 h2 => hD3 m (by omega) h2
  by_cases hu : k < s + 6
  · -- under a drum
    have hp1 : p1 up wh g s 6 k = stp up (wh k) (g (k - s)) := by unfold p1; rw [if_pos ⟨hsk, hu⟩]
    have hgk := hg (k - s) (by omega)
    have hadj : adj up wh g s last (k - s) = g (k - s) + crj up wh g s last (k - s) := by
      unfold adj
      rw [if_pos (by omega), if_pos (by omega)]
    rw [hp1, htw, hadj]
    rw [hadj] at hcn
    refine ⟨fun ⟨hb, _⟩ => ?_, fun hn => ?_⟩
    · have hc1 := hD2.mp hb
      rw [hc1] at hcn ⊢
      have h2 := two_sw (up := up) hwk hgk (Nat.le_refl 1)
      refine ⟨h2.1.symm, fun ho => ⟨Nat.or_lt_two_pow hD1 (Nat.pow_lt_pow_right (by decide) (by omega)), ?_, fun m h3 h4 => ?_⟩, fun ho => ⟨hD1, ?_, fun m h3 h4 => hhigh m h3 h4⟩⟩
      · rw [Nat.testBit_or, Nat.testBit_two_pow_self, Bool.or_true, hcn]
        exact ⟨fun _ => h2.2.mpr (Or.inr ho), fun _ => rfl⟩
      · rw [Nat.testBit_or, Nat.testBit_two_pow_of_ne (by omega), Bool.or_false]
        exact hhigh m h3 h4
      · rw [hnext, hcn, h2.2]
        exact ⟨fun q => Or.inl q.2, fun q => ⟨hu, q.resolve_right ho⟩⟩
    · have hc0 : crj up wh g s last (k - s) = 0 := by
        have : ¬ crj up wh g s last (k - s) = 1 := fun q => hn ⟨hD2.mpr q, by omega⟩
        omega
      rw [hc0] at hcn ⊢
      refine ⟨rfl, hD1, ?_, fun m h3 h4 => hhigh m h3 h4⟩
      rw [hnext, hcn]
      exact ⟨fun q => q.2, fun q => ⟨hu, q⟩⟩
  · have hp1 : p1 up wh g s 6 k = wh k := by unfold p1; rw [if_neg (by omega)]
    have hadj : adj up wh g s last (k - s) = if k ≤ last then crj up wh g s last (k - s) else 0 := by
      unfold adj
      rw [if_neg (by omega), Nat.zero_add, show s + (k - s) = k by omega]
    rw [hp1, htw, hadj]
    rw [hadj] at hcn
    have hbn : ¬ D.testBit (k + 1) = true := fun q => hu (hnext.mp q).1
    refine ⟨fun ⟨hb, hkl⟩ => ?_, fun hn => ?_⟩
    · have hc1 := hD2.mp hb
      rw [if_pos hkl, hc1] at hcn ⊢
      refine ⟨rfl, fun ho => ⟨Nat.or_lt_two_pow hD1 (Nat.pow_lt_pow_right (by decide) (by omega)), ?_, fun m h3 h4 => ?_⟩, fun ho => ⟨hD1, ?_, fun m h3 h4 => hhigh m h3 h4⟩⟩
      · rw [Nat.testBit_or, Nat.testBit_two_pow_self, Bool.or_true, hcn]
        exact ⟨fun _ => ho, fun _ => rfl⟩
      · rw [Nat.testBit_or, Nat.testBit_two_pow_of_ne (by omega), Bool.or_false]
        exact hhigh m h3 h4
      · rw [hcn]
        exact ⟨fun q => absurd q hbn, fun q => absurd q ho⟩
    · have hz : (if k ≤ last then crj up wh g s last (k - s) else 0) = 0 := by
        by_cases hkl : k ≤ last
        · rw [if_pos hkl]
          have : ¬ crj up wh g s last (k - s) = 1 := fun q => hn ⟨hD2.mpr q, hkl⟩
          omega
        · rw [if_neg hkl]
      rw [hz] at hcn ⊢
      have e0 : stp up (wh k) 0 = wh k := by unfold stp; cases up <;> simp; omega
      have e1 : cry up (wh k) 0 = 0 := by unfold cry; cases up <;> simp; omega
      refine ⟨e0, hD1, ?_, fun m h3 h4 => hhigh m h3 h4⟩
      rw [hcn, e1]
      exact ⟨fun q => absurd q hbn, fun q => absurd q (by decide)⟩
theorem q2_end {up : Bool} {wh g : Nat → Nat} {s last m : Nat} (h : m < 12) : q2 up wh g s last 12 m = tw up wh g s last m := by unfold q2; rw [if_pos h]
theorem q2_beg {up : Bool} {wh g : Nat → Nat} {s last m : Nat} : q2 up wh g s last s m = p1 up wh g s 6 m := by
  unfold q2
  by_cases h : m < s
  · rw [if_pos h]; unfold tw p1; rw [if_neg (by omega), if_neg (by omega)]
  · rw [if_neg h]
theorem q2_n {up : Bool} {wh g : Nat → Nat} {s last k m : Nat} (h : m ≠ k) : q2 up wh g s last (k + 1) m = q2 up wh g s last k m := by
  unfold q2
  by_cases h1 : m < k
  · rw [if_pos h1, if_pos (by omega)]
  · rw [if_neg h1, if_neg (by omega)]
theorem q2_k {up : Bool} {wh g : Nat → Nat} {s last k : Nat} : q2 up wh g s last (k + 1) k = tw up wh g s last k := by unfold q2; rw [if_pos (by omega)]
theorem q2_kk {up : Bool} {wh g : Nat → Nat} {s last k : Nat} : q2 up wh g s last k k = p1 up wh g s 6 k := by unfold q2; rw [if_neg (Nat.lt_irrefl k)]
theorem p1_le {up : Bool} {wh g : Nat → Nat} {s i k : Nat} (hw : ∀ k, k < 12 → wh k ≤ 9) (hg : ∀ i, i < 6 → g i ≤ 9) (hi : i ≤ 6) (hk : k < 12) : p1 up wh g s i k ≤ 9 := by
  unfold p1
  split
  · have := hg (k - s) (by omega)
    exact stp_le (hw k hk) (by omega)
  · exact hw k hk
theorem p1_0 {up : Bool} {wh g : Nat → Nat} {s k : Nat} : p1 up wh g s 0 k = wh k := by unfold p1; rw [if_neg (by omega)]
theorem p1_s {up : Bool} {wh g : Nat → Nat} {s i : Nat} : p1 up wh g s (i + 1) (i + s) = stp up (wh (i + s)) (g i) := by
  unfold p1; rw [if_pos (by omega), Nat.add_sub_cancel]
theorem p1_n {up : Bool} {wh g : Nat → Nat} {s i m : Nat} (h : m ≠ i + s) : p1 up wh g s (i + 1) m = p1 up wh g s i m := by
  unfold p1
  by_cases h1 : s ≤ m ∧ m < s + i
  · rw [if_pos h1, if_pos (by omega)]
  · rw [if_neg h1, if_neg (by omega)]
theorem p1_at {up : Bool} {wh g : Nat → Nat} {s i : Nat} : p1 up wh g s i (i + s) = wh (i + s) := by unfold p1; rw [if_neg (by omega)]
theorem tw_le {up : Bool} {wh g : Nat → Nat} {s last k : Nat} (hw : ∀ k, k < 12 → wh k ≤ 9) (hg : ∀ i, i < 6 → g i ≤ 9) (hk : k < 12) : tw up wh g s last k ≤ 9 := by
  unfold tw
  split
  · refine stp_le (hw k hk) ?_
    unfold adj
    have h1 := crj_le (up := up) (wh := wh) (g := g) (s := s) (last := last) (j := k - s)
    split
    · have := hg (k - s) (by assumption)
      split <;> omega
    · split <;> omega
  · exact hw k hk
/-! the ints of it -/
theorem bt_nI {D k : Nat} (hD : D < 2 ^ 31) (hk : k < 31) : (nI D >>> (nI k &&& 31)) &&& nI 1 = nI (D / 2 ^ k % 2) := by
  have h31 : ∀ k, k < 31 → ((nI k &&& 31).toBitVec.smod 32).toNat = k := by decide +kernel
  rw [pk_shrN hD (nI k &&& 31) k (h31 k hk)]
  have h2 : D / 2 ^ k < 2 ^ 32 := Nat.lt_of_le_of_lt (Nat.div_le_self _ _) (by omega)
  rw [pk_andN h2 (m := nI 1) 1 (by decide)]
theorem sh_nI {k : Nat} (hk : k < 31) : nI 1 <<< (nI k &&& 31) = nI (2 ^ k) := by
  have h31 : ∀ k, k < 31 → nI 1 <<< (nI k &&& 31) = nI (2 ^ k) := by decide +kernel
  exact h31 k hk
theorem or_nI (a b : Nat) : nI a ||| nI b = nI (a ||| b) := by
  apply Int32.toBitVec_inj.mp
  show (nI a).toBitVec ||| (nI b).toBitVec = (nI (a ||| b)).toBitVec
  apply BitVec.eq_of_toNat_eq
  rw [BitVec.toNat_or]
  show (BitVec.ofNat 32 a).toNat ||| (BitVec.ofNat 32 b).toNat = (BitVec.ofNat 32 (a ||| b)).toNat
  rw [BitVec.toNat_ofNat, BitVec.toNat_ofNat, BitVec.toNat_ofNat, Nat.or_mod_two_pow]
theorem tb_iff {D k : Nat} : D / 2 ^ k % 2 = 1 ↔ D.testBit k = true := by
  rw [Nat.testBit_eq_decide_div_mod_eq]
  simp
theorem dn_A : ∀ w, w < 10 → ∀ a, a < 10 → a ≤ w → nI w + (-1) * nI a = nI (w - a) := by decide +kernel
theorem dn_B : ∀ w, w < 10 → ∀ a, a < 10 → w < a → (nI w + (-1) * nI a < 0 ∧ nI w + (-1) * nI a - nI 10 * (-1) = nI (w + 10 - a)) := by decide +kernel
theorem dn_C : ∀ w, w < 10 → 1 ≤ w → nI w + (-1) = nI (w - 1) := by decide +kernel
theorem dn_D : (nI 0 + (-1) < 0 ∧ nI 0 + (-1) - nI 10 * (-1) = nI 9) := by decide +kernel
theorem q2_no {up : Bool} {wh g : Nat → Nat} {s last k : Nat} (h : tw up wh g s last k = q2 up wh g s last k k) (m : Nat) : q2 up wh g s last k m = q2 up wh g s last (k + 1) m := by
  by_cases hm : m = k
  · subst hm; rw [q2_k, h]
  · rw [q2_n hm]
theorem emb_upd0 {k x : Nat} {v v' : Nat → Nat} {old : Nat → Int32} (hk : k < 12) (h1 : v' k = x) (h2 : ∀ m, m < 12 → m ≠ k → v' m = v m) : upd (emb 0 v old) k (nI x) = emb 0 v' old := by
  have h := emb_upd (b := 0) (old := old) hk h1 h2
  rwa [Nat.zero_add] at h
end
section
theorem emb_eq {b : Nat} {v v' : Nat → Nat} {old : Nat → Int32} (h : ∀ m, m < 12 → v m = v' m) : emb b v old = emb b v' old := by
  funext j
  unfold emb
  by_cases hj : b ≤ j ∧ j < b + 12
  · rw [if_pos hj, if_pos hj, h _ (by omega)]
  · rw [if_neg hj, if_neg hj]
theorem blP_dec {up : Bool} {wh g : Nat → Nat} {s last : Nat} : True := trivial
set_option maxRecDepth 100000 in
set_option maxHeartbeats 4000000 in
theorem c_X5_turnsBy_now_up (w : GW) (tu : Int64) (sg : Sg) (s : Nat) (wh g : Nat → Nat) (re : Nat) (hs6 : s ≤ 6) (hre : sg 45 32 = nI re) (hr12 : re ≤ 12) (hwh : ∀ k, k < 12 → sg 45 (12 + k) = nI (wh k)) (hw9 : ∀ k, k < 12 → wh k ≤ 9) (hgi : ∀ i, i < 6 → sg 50 i = nI (g i)) (hg9 : ∀ i, i < 6 → g i ≤ 9) : Kt w yX5_turnsBy cX5_turnsBy 10 (some .boolean) 0 [.ref (ad w 44), .ref (ad w 45), .int (nI 12), .int (nI s), .int (nI 1)] sg tu (some (.int (bI (blP true wh g s (s + 5 + re))))) (us sg 45 (emb 12 (tw true wh g s (s + 5 + re)) (sg 45))) tu := by
  refine Kt.of2 RX5 rfl [(0, .ref (ad w 44)), (1, .ref (ad w 45)), (2, .int (nI 12)), (3, .int (nI s)), (4, .int (nI 1))] (by decide) rfl (Nat.le_of_ble_eq_true rfl) (fun z C E => ?_)
  have hemb0 : emb 12 (p1 true wh g s 0) (sg 45) = sg 45 := by
    funext j
    unfold emb
    split
    · rename_i hj
      rw [p1_0, ← hwh (j - 12) (by omega)]
      congr 1
      omega
    · rfl
  refine g_iload_n C 3 rfl rfl dX5_turnsBy_0 ?_
  refine g_iconst C (v := (nI 5)) (by decide) dX5_turnsBy_1 ?_
  refine g_iadd C dX5_turnsBy_2 ?_
  refine g_top (y := (nI (s + 5))) (nI_add s 5) ?_
  refine g_aload_n C 0 rfl rfl dX5_turnsBy_3 ?_
  refine g_getR C (j := 0) cls5 e_44 rfl (by decide) fl_X5_7 dX5_turnsBy_4 ?_
  refine g_bipush C (v := (nI 32)) (by decide) dX5_turnsBy_7 ?_
  refine g_ialdN C 32 e_45 (by decide) (by decide) dX5_turnsBy_9 ?_
  refine g_top (y := (nI re)) hre ?_
  refine g_iadd C dX5_turnsBy_10 ?_
  refine g_top (y := (nI ((s + 5) + re))) (nI_add (s + 5) re) ?_
  refine g_istore C (L' := [(5, .int (nI ((s + 5) + re))), (0, .ref (ad w 44)), (1, .ref (ad w 45)), (2, .int (nI 12)), (3, .int (nI s)), (4, .int (nI 1))]) (by decide) rfl dX5_turnsBy_11 ?_
  refine g_iconst C (v := (nI 0)) (by decide) dX5_turnsBy_13 ?_
  refine g_istore C (L' := [(6, .int (nI 0)), (5, .int (nI ((s + 5) + re))), (0, .ref (ad w 44)), (1, .ref (ad w 45)), (2, .int (nI 12)), (3, .int (nI s)), (4, .int (nI 1))]) (by decide) rfl dX5_turnsBy_14 ?_
  refine g_iconst C (v := (nI 0)) (by decide) dX5_turnsBy_16 ?_
  refine g_istore C (L' := [(7, .int (nI 0)), (6, .int (nI 0)), (5, .int (nI ((s + 5) + re))), (0, .ref (ad w 44)), (1, .ref (ad w 45)), (2, .int (nI 12)), (3, .int (nI s)), (4, .int (nI 1))]) (by decide) rfl dX5_turnsBy_17 ?_
  have lpa : ∀ (nf i : Nat), 6 < i + nf → i ≤ 6 → (True) → G z w 10 (us sg 45 (emb 12 (p1 true wh g s i) (sg 45))) tu 19 [(7, .int (nI i)), (6, .int (nI (D1 true wh g s i))), (5, .int (nI ((s + 5) + re))), (0, .ref (ad w 44)), (1, .ref (ad w 45)), (2, .int (nI 12)), (3, .int (nI s)), (4, .int (nI 1))] [] := by
    intro nf
    induction nf with
    | zero => intro i  h1 h2 hI; exact absurd h1 (by omega)
    | succ nf ih =>
      intro i  h1 h2 hI
      refine g_iload C 0 rfl dX5_turnsBy_19 ?_
      refine g_bipush C (v := (nI 6)) (by decide) dX5_turnsBy_21 ?_
      refine g_icmpN_ge C i 6 (by omega) (by omega) (tgt := 120) (by decide) dX5_turnsBy_23 (fun h23 => ?_) (fun h23 => ?_)
      ·
        have hiN : i = 6 := by omega
        subst hiN
        refine g_iload_n C 6 rfl rfl dX5_turnsBy_120 ?_
        refine g_istore C (L' := [(7, .int (nI s)), (6, .int (nI (D1 true wh g s 6))), (5, .int (nI ((s + 5) + re))), (0, .ref (ad w 44)), (1, .ref (ad w 45)), (2, .int (nI 12)), (3, .int (nI s)), (4, .int (nI 1))]) (by decide) rfl dX5_turnsBy_121 ?_
        have lpb : ∀ (nf k D : Nat), 12 < k + nf → k ≤ 12 → s ≤ k → D2 true wh g s (s + 5 + re) k D → G z w 10 (us sg 45 (emb 12 (q2 true wh g s (s + 5 + re) k) (sg 45))) tu 123 [(7, .int (nI k)), (6, .int (nI D)), (5, .int (nI ((s + 5) + re))), (0, .ref (ad w 44)), (1, .ref (ad w 45)), (2, .int (nI 12)), (3, .int (nI s)), (4, .int (nI 1))] [] := by
          intro nf
          induction nf with
          | zero => intro k D h1 h2 h3 hD; exact absurd h1 (by omega)
          | succ nf ih =>
            intro k D h1 h2 h3 hD
            have hD31 : D < 2 ^ 31 := Nat.lt_of_lt_of_le hD.1 (by decide)
            refine g_iload C 0 rfl dX5_turnsBy_123 ?_
            refine g_bipush C (v := (nI 12)) (by decide) dX5_turnsBy_125 ?_
            refine g_icmpN_ge C k 12 (by omega) (by omega) (tgt := 228) (by decide) dX5_turnsBy_127 (fun h127 => ?_) (fun h127 => ?_)
            ·
              have hkN : k = 12 := by omega
              subst hkN
              refine g_iload C 1 rfl dX5_turnsBy_228 ?_
              refine g_bipush C (v := (nI 12)) (by decide) dX5_turnsBy_230 ?_
              refine g_ishr C dX5_turnsBy_232 ?_
              refine g_iconst C (v := (nI 1)) (by decide) dX5_turnsBy_233 ?_
              refine g_iand C dX5_turnsBy_234 ?_
              refine g_top (y := nI (D / 2 ^ 12 % 2)) (bt_nI hD31 (by omega)) ?_
              refine g_iconst C (v := (nI 1)) (by decide) dX5_turnsBy_235 ?_
              refine g_icmpN_ne C (D / 2 ^ 12 % 2) 1 (by omega) (by omega) (tgt := 250) (by decide) dX5_turnsBy_236 (fun h236 => ?_) (fun h236 => ?_)
              ·
                refine g_iconst C (v := (nI 0)) (by decide) dX5_turnsBy_250 ?_
                exact g_zret C E dX5_turnsBy_251 (by decide +kernel) (bI_f (fun q => h236 (tb_iff.mpr (hD.2.1.mpr q.1)))).symm (Sq.us fun j hj => congrFun (emb_eq (fun m hm => q2_end hm)) j) rfl
              ·
                refine g_bipush C (v := (nI 12)) (by decide) dX5_turnsBy_239 ?_
                refine g_iload C 2 rfl dX5_turnsBy_241 ?_
                refine g_icmpN_gt C 12 ((s + 5) + re) (by omega) (by omega) (tgt := 250) (by decide) dX5_turnsBy_243 (fun h243 => ?_) (fun h243 => ?_)
                ·
                  refine g_iconst C (v := (nI 0)) (by decide) dX5_turnsBy_250 ?_
                  exact g_zret C E dX5_turnsBy_251 (by decide +kernel) (bI_f (fun q => absurd q.2 (by omega))).symm (Sq.us fun j hj => congrFun (emb_eq (fun m hm => q2_end hm)) j) rfl
                ·
                  refine g_iconst C (v := (nI 1)) (by decide) dX5_turnsBy_246 ?_
                  refine g_goto C (tgt := 251) (by decide) dX5_turnsBy_247 ?_
                  exact g_zret C E dX5_turnsBy_251 (by decide +kernel) (bI_t ⟨hD.2.1.mp (tb_iff.mp h236), h243⟩).symm (Sq.us fun j hj => congrFun (emb_eq (fun m hm => q2_end hm)) j) rfl
            ·
              have hq := q2_s hw9 hg9 h3 (show k < 12 by omega) (by omega) hD
              have hqk9 : q2 true wh g s (s + 5 + re) k k ≤ 9 := by rw [q2_kk]; exact p1_le hw9 hg9 (Nat.le_refl 6) (by omega)
              refine g_iload C 1 rfl dX5_turnsBy_130 ?_
              refine g_iload C 0 rfl dX5_turnsBy_132 ?_
              refine g_ishr C dX5_turnsBy_134 ?_
              refine g_iconst C (v := (nI 1)) (by decide) dX5_turnsBy_135 ?_
              refine g_iand C dX5_turnsBy_136 ?_
              refine g_top (y := nI (D / 2 ^ k % 2)) (bt_nI hD31 (by omega)) ?_
              refine g_iconst C (v := (nI 1)) (by decide) dX5_turnsBy_137 ?_
              refine g_icmpN_ne C (D / 2 ^ k % 2) 1 (by omega) (by omega) (tgt := 222) (by decide) dX5_turnsBy_138 (fun h138 => ?_) (fun h138 => ?_)
              ·
                have hno : ¬ (D.testBit k = true ∧ k ≤ (s + 5 + re)) := fun q => h138 (tb_iff.mpr q.1)
                refine g_iinc C (n := 1) (v := (nI (k + 1))) (L' := [(7, .int (nI (k + 1))), (6, .int (nI D)), (5, .int (nI ((s + 5) + re))), (0, .ref (ad w 44)), (1, .ref (ad w 45)), (2, .int (nI 12)), (3, .int (nI s)), (4, .int (nI 1))]) 0 rfl (nI_add k 1) (by decide) rfl dX5_turnsBy_222 ?_
                refine g_goto C (tgt := 123) (by decide) dX5_turnsBy_225 ?_
                refine g_sub (L' := [(7, .int (nI (k + 1))), (6, .int (nI D)), (5, .int (nI ((s + 5) + re))), (0, .ref (ad w 44)), (1, .ref (ad w 45)), (2, .int (nI 12)), (3, .int (nI s)), (4, .int (nI 1))]) [0, 1, 2, 3, 4, 5, 6, 7] rfl ?_
                refine g_sgE (sg' := (us sg 45 (emb 12 (q2 true wh g s (s + 5 + re) (k + 1)) (sg 45)))) (congrArg (us sg 45) (emb_eq (fun m _ => q2_no (hq.2 hno).1 m))) ?_
                exact ih (k + 1) D (by omega) (by omega) (by omega) (hq.2 hno).2
              ·
                refine g_iload C 0 rfl dX5_turnsBy_141 ?_
                refine g_iload C 2 rfl dX5_turnsBy_143 ?_
                refine g_icmpN_gt C k ((s + 5) + re) (by omega) (by omega) (tgt := 222) (by decide) dX5_turnsBy_145 (fun h145 => ?_) (fun h145 => ?_)
                ·
                  have hno : ¬ (D.testBit k = true ∧ k ≤ (s + 5 + re)) := fun q => absurd q.2 (by omega)
                  refine g_iinc C (n := 1) (v := (nI (k + 1))) (L' := [(7, .int (nI (k + 1))), (6, .int (nI D)), (5, .int (nI ((s + 5) + re))), (0, .ref (ad w 44)), (1, .ref (ad w 45)), (2, .int (nI 12)), (3, .int (nI s)), (4, .int (nI 1))]) 0 rfl (nI_add k 1) (by decide) rfl dX5_turnsBy_222 ?_
                  refine g_goto C (tgt := 123) (by decide) dX5_turnsBy_225 ?_
                  refine g_sub (L' := [(7, .int (nI (k + 1))), (6, .int (nI D)), (5, .int (nI ((s + 5) + re))), (0, .ref (ad w 44)), (1, .ref (ad w 45)), (2, .int (nI 12)), (3, .int (nI s)), (4, .int (nI 1))]) [0, 1, 2, 3, 4, 5, 6, 7] rfl ?_
                  refine g_sgE (sg' := (us sg 45 (emb 12 (q2 true wh g s (s + 5 + re) (k + 1)) (sg 45)))) (congrArg (us sg 45) (emb_eq (fun m _ => q2_no (hq.2 hno).1 m))) ?_
                  exact ih (k + 1) D (by omega) (by omega) (by omega) (hq.2 hno).2
                ·
                  have hyes : D.testBit k = true ∧ k ≤ (s + 5 + re) := ⟨tb_iff.mp h138, by omega⟩
                  refine g_aload_n C 4 rfl rfl dX5_turnsBy_148 ?_
                  refine g_iload_n C 5 rfl rfl dX5_turnsBy_149 ?_
                  refine g_iload C 0 rfl dX5_turnsBy_150 ?_
                  refine g_iadd C dX5_turnsBy_152 ?_
                  refine g_top (y := (nI (12 + k))) (nI_add 12 k) ?_
                  refine g_ialdN C (12 + k) e_45 (by omega) (by decide) dX5_turnsBy_153 ?_
                  refine g_top (y := ((emb 12 (q2 true wh g s (s + 5 + re) k) (sg 45)) (12 + k))) rfl ?_
                  refine g_top (y := nI (q2 true wh g s (s + 5 + re) k k)) (emb_in (by omega)) ?_
                  refine g_iload C 7 rfl dX5_turnsBy_154 ?_
                  refine g_iadd C dX5_turnsBy_156 ?_
                  refine g_top (y := (nI ((q2 true wh g s (s + 5 + re) k k) + 1))) (nI_add (q2 true wh g s (s + 5 + re) k k) 1) ?_
                  refine g_istore C (L' := [(8, .int (nI ((q2 true wh g s (s + 5 + re) k k) + 1))), (7, .int (nI k)), (6, .int (nI D)), (5, .int (nI ((s + 5) + re))), (0, .ref (ad w 44)), (1, .ref (ad w 45)), (2, .int (nI 12)), (3, .int (nI s)), (4, .int (nI 1))]) (by decide) rfl dX5_turnsBy_157 ?_
                  refine g_iload C 0 rfl dX5_turnsBy_159 ?_
                  refine g_bipush C (v := (nI 9)) (by decide) dX5_turnsBy_161 ?_
                  refine g_icmpN_gt C ((q2 true wh g s (s + 5 + re) k k) + 1) 9 (by omega) (by omega) (tgt := 171) (by decide) dX5_turnsBy_163 (fun h163 => ?_) (fun h163 => ?_)
                  ·
                    refine g_iconst C (v := (nI 1)) (by decide) dX5_turnsBy_171 ?_
                    refine g_goto C (tgt := 176) (by decide) dX5_turnsBy_172 ?_
                    refine g_istore C (L' := [(9, .int (nI 1)), (8, .int (nI ((q2 true wh g s (s + 5 + re) k k) + 1))), (7, .int (nI k)), (6, .int (nI D)), (5, .int (nI ((s + 5) + re))), (0, .ref (ad w 44)), (1, .ref (ad w 45)), (2, .int (nI 12)), (3, .int (nI s)), (4, .int (nI 1))]) (by decide) rfl dX5_turnsBy_176 ?_
                    refine g_aload_n C 6 rfl rfl dX5_turnsBy_178 ?_
                    refine g_iload_n C 7 rfl rfl dX5_turnsBy_179 ?_
                    refine g_iload C 2 rfl dX5_turnsBy_180 ?_
                    refine g_iadd C dX5_turnsBy_182 ?_
                    refine g_top (y := (nI (12 + k))) (nI_add 12 k) ?_
                    refine g_iload C 0 rfl dX5_turnsBy_183 ?_
                    refine g_if_eq C (tgt := 199) (by decide) dX5_turnsBy_185 (fun h185 => absurd h185 (by decide)) (fun h185 => ?_)
                    refine g_iload C 1 rfl dX5_turnsBy_188 ?_
                    refine g_bipush C (v := (nI 10)) (by decide) dX5_turnsBy_190 ?_
                    refine g_iload C 9 rfl dX5_turnsBy_192 ?_
                    refine g_imul C dX5_turnsBy_194 ?_
                    refine g_top (y := (nI 10)) (pk_mul 10 1) ?_
                    refine g_isub C dX5_turnsBy_195 ?_
                    refine g_top (y := nI (stp true (q2 true wh g s (s + 5 + re) k k) 1)) (by rw [show stp true (q2 true wh g s (s + 5 + re) k k) 1 = q2 true wh g s (s + 5 + re) k k + 1 - 10 from by simp only [stp, if_true]; exact if_pos h163]; exact pk_sub (by omega)) ?_
                    refine g_goto C (tgt := 201) (by decide) dX5_turnsBy_196 ?_
                    refine g_iastN C (12 + k) e_45 (by omega) (by decide) dX5_turnsBy_201 ?_
                    refine g_sgE (sg' := (us sg 45 (upd (emb 12 (q2 true wh g s (s + 5 + re) k) (sg 45)) (12 + k) (nI (stp true (q2 true wh g s (s + 5 + re) k k) 1))))) us_us ?_
                    refine g_iload C 3 rfl dX5_turnsBy_202 ?_
                    refine g_iload C 0 rfl dX5_turnsBy_204 ?_
                    refine g_if_eq C (tgt := 218) (by decide) dX5_turnsBy_206 (fun h206 => absurd h206 (by decide)) (fun h206 => ?_)
                    refine g_iconst C (v := (nI 1)) (by decide) dX5_turnsBy_209 ?_
                    refine g_iload C 2 rfl dX5_turnsBy_210 ?_
                    refine g_iconst C (v := (nI 1)) (by decide) dX5_turnsBy_212 ?_
                    refine g_iadd C dX5_turnsBy_213 ?_
                    refine g_top (y := (nI (k + 1))) (nI_add k 1) ?_
                    refine g_ishl C dX5_turnsBy_214 ?_
                    refine g_top (y := nI (2 ^ (k + 1))) (sh_nI (by omega)) ?_
                    refine g_goto C (tgt := 219) (by decide) dX5_turnsBy_215 ?_
                    refine g_ior C dX5_turnsBy_219 ?_
                    refine g_top (y := nI (D ||| 2 ^ (k + 1))) (or_nI _ _) ?_
                    have hcr : cry true (q2 true wh g s (s + 5 + re) k k) 1 = 1 := (by simp only [cry, if_true]; exact if_pos h163)
                    refine g_istore C (L' := [(6, .int (nI (D ||| 2 ^ (k + 1)))), (9, .int (nI 1)), (8, .int (nI ((q2 true wh g s (s + 5 + re) k k) + 1))), (7, .int (nI k)), (5, .int (nI ((s + 5) + re))), (0, .ref (ad w 44)), (1, .ref (ad w 45)), (2, .int (nI 12)), (3, .int (nI s)), (4, .int (nI 1))]) (by decide) rfl dX5_turnsBy_220 ?_
                    refine g_iinc C (n := 1) (v := (nI (k + 1))) (L' := [(7, .int (nI (k + 1))), (6, .int (nI (D ||| 2 ^ (k + 1)))), (9, .int (nI 1)), (8, .int (nI ((q2 true wh g s (s + 5 + re) k k) + 1))), (5, .int (nI ((s + 5) + re))), (0, .ref (ad w 44)), (1, .ref (ad w 45)), (2, .int (nI 12)), (3, .int (nI s)), (4, .int (nI 1))]) 3 rfl (nI_add k 1) (by decide) rfl dX5_turnsBy_222 ?_
                    refine g_goto C (tgt := 123) (by decide) dX5_turnsBy_225 ?_
                    refine g_sub (L' := [(7, .int (nI (k + 1))), (6, .int (nI (D ||| 2 ^ (k + 1)))), (5, .int (nI ((s + 5) + re))), (0, .ref (ad w 44)), (1, .ref (ad w 45)), (2, .int (nI 12)), (3, .int (nI s)), (4, .int (nI 1))]) [0, 1, 4, 5, 6, 7, 8, 9] rfl ?_
                    refine g_sgE (sg' := (us sg 45 (emb 12 (q2 true wh g s (s + 5 + re) (k + 1)) (sg 45)))) (congrArg (us sg 45) (emb_upd (by omega) (by rw [q2_k]; exact (hq.1 hyes).1) (fun m _ hm => q2_n hm))) ?_
                    exact ih (k + 1) (D ||| 2 ^ (k + 1)) (by omega) (by omega) (by omega) ((hq.1 hyes).2.1 hcr)
                  ·
                    refine g_iload C 0 rfl dX5_turnsBy_166 ?_
                    refine g_if_ge C (tgt := 175) (by decide) dX5_turnsBy_168 (fun h168 => ?_) (fun h168 => absurd (nI_pos' (by omega)) h168)
                    refine g_iconst C (v := (nI 0)) (by decide) dX5_turnsBy_175 ?_
                    refine g_istore C (L' := [(9, .int (nI 0)), (8, .int (nI ((q2 true wh g s (s + 5 + re) k k) + 1))), (7, .int (nI k)), (6, .int (nI D)), (5, .int (nI ((s + 5) + re))), (0, .ref (ad w 44)), (1, .ref (ad w 45)), (2, .int (nI 12)), (3, .int (nI s)), (4, .int (nI 1))]) (by decide) rfl dX5_turnsBy_176 ?_
                    refine g_aload_n C 6 rfl rfl dX5_turnsBy_178 ?_
                    refine g_iload_n C 7 rfl rfl dX5_turnsBy_179 ?_
                    refine g_iload C 2 rfl dX5_turnsBy_180 ?_
                    refine g_iadd C dX5_turnsBy_182 ?_
                    refine g_top (y := (nI (12 + k))) (nI_add 12 k) ?_
                    refine g_iload C 0 rfl dX5_turnsBy_183 ?_
                    refine g_if_eq C (tgt := 199) (by decide) dX5_turnsBy_185 (fun h185 => ?_) (fun h185 => absurd h185 (by decide))
                    refine g_iload C 1 rfl dX5_turnsBy_199 ?_
                    refine g_top (y := nI (stp true (q2 true wh g s (s + 5 + re) k k) 1)) (congrArg nI (by simp only [stp, if_true]; exact (if_neg (by omega)).symm)) ?_
                    refine g_iastN C (12 + k) e_45 (by omega) (by decide) dX5_turnsBy_201 ?_
                    refine g_sgE (sg' := (us sg 45 (upd (emb 12 (q2 true wh g s (s + 5 + re) k) (sg 45)) (12 + k) (nI (stp true (q2 true wh g s (s + 5 + re) k k) 1))))) us_us ?_
                    refine g_iload C 3 rfl dX5_turnsBy_202 ?_
                    refine g_iload C 0 rfl dX5_turnsBy_204 ?_
                    refine g_if_eq C (tgt := 218) (by decide) dX5_turnsBy_206 (fun h206 => ?_) (fun h206 => absurd h206 (by decide))
                    refine g_iconst C (v := (nI 0)) (by decide) dX5_turnsBy_218 ?_
                    refine g_ior C dX5_turnsBy_219 ?_
                    refine g_top (y := nI (D ||| 0)) (or_nI _ _) ?_
                    have hcr : ¬ cry true (q2 true wh g s (s + 5 + re) k k) 1 = 1 := (by simp only [cry, if_true]; rw [if_neg (by omega)]; decide)
                    refine g_istore C (L' := [(6, .int (nI (D ||| 0))), (9, .int (nI 0)), (8, .int (nI ((q2 true wh g s (s + 5 + re) k k) + 1))), (7, .int (nI k)), (5, .int (nI ((s + 5) + re))), (0, .ref (ad w 44)), (1, .ref (ad w 45)), (2, .int (nI 12)), (3, .int (nI s)), (4, .int (nI 1))]) (by decide) rfl dX5_turnsBy_220 ?_
                    refine g_iinc C (n := 1) (v := (nI (k + 1))) (L' := [(7, .int (nI (k + 1))), (6, .int (nI (D ||| 0))), (9, .int (nI 0)), (8, .int (nI ((q2 true wh g s (s + 5 + re) k k) + 1))), (5, .int (nI ((s + 5) + re))), (0, .ref (ad w 44)), (1, .ref (ad w 45)), (2, .int (nI 12)), (3, .int (nI s)), (4, .int (nI 1))]) 3 rfl (nI_add k 1) (by decide) rfl dX5_turnsBy_222 ?_
                    refine g_goto C (tgt := 123) (by decide) dX5_turnsBy_225 ?_
                    refine g_sub (L' := [(7, .int (nI (k + 1))), (6, .int (nI (D ||| 0))), (5, .int (nI ((s + 5) + re))), (0, .ref (ad w 44)), (1, .ref (ad w 45)), (2, .int (nI 12)), (3, .int (nI s)), (4, .int (nI 1))]) [0, 1, 4, 5, 6, 7, 8, 9] rfl ?_
                    refine g_sgE (sg' := (us sg 45 (emb 12 (q2 true wh g s (s + 5 + re) (k + 1)) (sg 45)))) (congrArg (us sg 45) (emb_upd (by omega) (by rw [q2_k]; exact (hq.1 hyes).1) (fun m _ hm => q2_n hm))) ?_
                    exact ih (k + 1) (D ||| 0) (by omega) (by omega) (by omega) (by rw [Nat.or_zero]; exact (hq.1 hyes).2.2 hcr)
        refine g_sgE (sg' := (us sg 45 (emb 12 (q2 true wh g s (s + 5 + re) s) (sg 45)))) (congrArg (us sg 45) (emb_eq (fun m _ => q2_beg.symm))) ?_
        refine g_sub (L' := [(7, .int (nI s)), (6, .int (nI (D1 true wh g s 6))), (5, .int (nI ((s + 5) + re))), (0, .ref (ad w 44)), (1, .ref (ad w 45)), (2, .int (nI 12)), (3, .int (nI s)), (4, .int (nI 1))]) [0, 1, 2, 3, 4, 5, 6, 7] rfl ?_
        exact lpb 13 s (D1 true wh g s 6) (by omega) (by omega) (Nat.le_refl _) (D2_0 (by omega))
      ·
        refine g_aload_n C 4 rfl rfl dX5_turnsBy_26 ?_
        refine g_iload_n C 5 rfl rfl dX5_turnsBy_27 ?_
        refine g_iload C 0 rfl dX5_turnsBy_28 ?_
        refine g_iadd C dX5_turnsBy_30 ?_
        refine g_top (y := (nI (12 + i))) (nI_add 12 i) ?_
        refine g_iload_n C 6 rfl rfl dX5_turnsBy_31 ?_
        refine g_iadd C dX5_turnsBy_32 ?_
        refine g_top (y := (nI ((12 + i) + s))) (nI_add (12 + i) s) ?_
        refine g_top (y := (nI (12 + (i + s)))) (congrArg nI (by omega)) ?_
        refine g_ialdN C (12 + (i + s)) e_45 (by omega) (by decide) dX5_turnsBy_33 ?_
        refine g_top (y := ((emb 12 (p1 true wh g s i) (sg 45)) (12 + (i + s)))) rfl ?_
        refine g_top (y := nI (wh (i + s))) (by rw [emb_in (by omega), p1_at]) ?_
        have hb1 := hw9 (i + s) (by omega)
        have hb2 := hg9 i (by omega)
        refine g_iload C 7 rfl dX5_turnsBy_34 ?_
        refine g_aload_n C 3 rfl rfl dX5_turnsBy_36 ?_
        refine g_getR C (j := 7) cls5 e_44 rfl (by decide) fl_X5_25 dX5_turnsBy_37 ?_
        refine g_iload C 0 rfl dX5_turnsBy_40 ?_
        refine g_ialdN C i e_50 (by omega) (by decide) dX5_turnsBy_42 ?_
        refine g_top (y := (sg 50 i)) rfl ?_
        refine g_top (y := nI (g i)) (hgi i (by omega)) ?_
        refine g_imul C dX5_turnsBy_43 ?_
        refine g_top (y := (nI (g i))) (by rw [pk_mul, Nat.one_mul]) ?_
        refine g_iadd C dX5_turnsBy_44 ?_
        refine g_top (y := (nI ((wh (i + s)) + (g i)))) (nI_add (wh (i + s)) (g i)) ?_
        refine g_istore C (L' := [(8, .int (nI ((wh (i + s)) + (g i)))), (7, .int (nI i)), (6, .int (nI (D1 true wh g s i))), (5, .int (nI ((s + 5) + re))), (0, .ref (ad w 44)), (1, .ref (ad w 45)), (2, .int (nI 12)), (3, .int (nI s)), (4, .int (nI 1))]) (by decide) rfl dX5_turnsBy_45 ?_
        refine g_iload C 0 rfl dX5_turnsBy_47 ?_
        refine g_bipush C (v := (nI 9)) (by decide) dX5_turnsBy_49 ?_
        refine g_icmpN_gt C ((wh (i + s)) + (g i)) 9 (by omega) (by omega) (tgt := 59) (by decide) dX5_turnsBy_51 (fun h51 => ?_) (fun h51 => ?_)
        ·
          refine g_iconst C (v := (nI 1)) (by decide) dX5_turnsBy_59 ?_
          refine g_goto C (tgt := 64) (by decide) dX5_turnsBy_60 ?_
          refine g_istore C (L' := [(9, .int (nI 1)), (8, .int (nI ((wh (i + s)) + (g i)))), (7, .int (nI i)), (6, .int (nI (D1 true wh g s i))), (5, .int (nI ((s + 5) + re))), (0, .ref (ad w 44)), (1, .ref (ad w 45)), (2, .int (nI 12)), (3, .int (nI s)), (4, .int (nI 1))]) (by decide) rfl dX5_turnsBy_64 ?_
          refine g_aload_n C 6 rfl rfl dX5_turnsBy_66 ?_
          refine g_iload_n C 7 rfl rfl dX5_turnsBy_67 ?_
          refine g_iload C 2 rfl dX5_turnsBy_68 ?_
          refine g_iadd C dX5_turnsBy_70 ?_
          refine g_top (y := (nI (12 + i))) (nI_add 12 i) ?_
          refine g_iload_n C 8 rfl rfl dX5_turnsBy_71 ?_
          refine g_iadd C dX5_turnsBy_72 ?_
          refine g_top (y := (nI ((12 + i) + s))) (nI_add (12 + i) s) ?_
          refine g_top (y := (nI (12 + (i + s)))) (congrArg nI (by omega)) ?_
          refine g_iload C 0 rfl dX5_turnsBy_73 ?_
          refine g_if_eq C (tgt := 89) (by decide) dX5_turnsBy_75 (fun h75 => absurd h75 (by decide)) (fun h75 => ?_)
          refine g_iload C 1 rfl dX5_turnsBy_78 ?_
          refine g_bipush C (v := (nI 10)) (by decide) dX5_turnsBy_80 ?_
          refine g_iload C 9 rfl dX5_turnsBy_82 ?_
          refine g_imul C dX5_turnsBy_84 ?_
          refine g_top (y := (nI 10)) (pk_mul 10 1) ?_
          refine g_isub C dX5_turnsBy_85 ?_
          refine g_top (y := nI (stp true (wh (i + s)) (g i))) (by rw [show stp true (wh (i + s)) (g i) = wh (i + s) + g i - 10 from by simp only [stp, if_true]; exact if_pos h51]; exact pk_sub (by omega)) ?_
          refine g_goto C (tgt := 91) (by decide) dX5_turnsBy_86 ?_
          refine g_iastN C (12 + (i + s)) e_45 (by omega) (by decide) dX5_turnsBy_91 ?_
          refine g_sgE (sg' := (us sg 45 (upd (emb 12 (p1 true wh g s i) (sg 45)) (12 + (i + s)) (nI (stp true (wh (i + s)) (g i)))))) us_us ?_
          refine g_iload C 3 rfl dX5_turnsBy_92 ?_
          refine g_iload C 0 rfl dX5_turnsBy_94 ?_
          refine g_if_eq C (tgt := 110) (by decide) dX5_turnsBy_96 (fun h96 => absurd h96 (by decide)) (fun h96 => ?_)
          refine g_iconst C (v := (nI 1)) (by decide) dX5_turnsBy_99 ?_
          refine g_iload C 2 rfl dX5_turnsBy_100 ?_
          refine g_iload_n C 8 rfl rfl dX5_turnsBy_102 ?_
          refine g_iadd C dX5_turnsBy_103 ?_
          refine g_top (y := (nI (i + s))) (nI_add i s) ?_
          refine g_iconst C (v := (nI 1)) (by decide) dX5_turnsBy_104 ?_
          refine g_iadd C dX5_turnsBy_105 ?_
          refine g_top (y := (nI ((i + s) + 1))) (nI_add (i + s) 1) ?_
          refine g_ishl C dX5_turnsBy_106 ?_
          refine g_top (y := nI (2 ^ (i + s + 1))) (sh_nI (by omega)) ?_
          refine g_goto C (tgt := 111) (by decide) dX5_turnsBy_107 ?_
          refine g_ior C dX5_turnsBy_111 ?_
          refine g_top (y := nI (D1 true wh g s i ||| 2 ^ (i + s + 1))) (or_nI _ _) ?_
          refine g_istore C (L' := [(6, .int (nI (D1 true wh g s i ||| 2 ^ (i + s + 1)))), (9, .int (nI 1)), (8, .int (nI ((wh (i + s)) + (g i)))), (7, .int (nI i)), (5, .int (nI ((s + 5) + re))), (0, .ref (ad w 44)), (1, .ref (ad w 45)), (2, .int (nI 12)), (3, .int (nI s)), (4, .int (nI 1))]) (by decide) rfl dX5_turnsBy_112 ?_
          refine g_iinc C (n := 1) (v := (nI (i + 1))) (L' := [(7, .int (nI (i + 1))), (6, .int (nI (D1 true wh g s i ||| 2 ^ (i + s + 1)))), (9, .int (nI 1)), (8, .int (nI ((wh (i + s)) + (g i)))), (5, .int (nI ((s + 5) + re))), (0, .ref (ad w 44)), (1, .ref (ad w 45)), (2, .int (nI 12)), (3, .int (nI s)), (4, .int (nI 1))]) 3 rfl (nI_add i 1) (by decide) rfl dX5_turnsBy_114 ?_
          refine g_goto C (tgt := 19) (by decide) dX5_turnsBy_117 ?_
          have hcr : cry true (wh (i + s)) (g i) = 1 := (by simp only [cry, if_true]; exact if_pos h51)
          have hD : D1 true wh g s (i + 1) = D1 true wh g s i ||| 2 ^ (i + s + 1) := by
            show (if cry true (wh (i + s)) (g i) = 1 then _ else _) = _
            rw [hcr, if_pos rfl]
          refine g_sub (L' := [(7, .int (nI (i + 1))), (6, .int (nI (D1 true wh g s i ||| 2 ^ (i + s + 1)))), (5, .int (nI ((s + 5) + re))), (0, .ref (ad w 44)), (1, .ref (ad w 45)), (2, .int (nI 12)), (3, .int (nI s)), (4, .int (nI 1))]) [0, 1, 4, 5, 6, 7, 8, 9] rfl ?_
          refine g_eq (L' := [(7, .int (nI (i + 1))), (6, .int (nI (D1 true wh g s (i + 1)))), (5, .int (nI ((s + 5) + re))), (0, .ref (ad w 44)), (1, .ref (ad w 45)), (2, .int (nI 12)), (3, .int (nI s)), (4, .int (nI 1))]) rfl rfl (by rw [hD]) rfl ?_
          refine g_sgE (sg' := (us sg 45 (emb 12 (p1 true wh g s (i + 1)) (sg 45)))) (congrArg (us sg 45) (emb_upd (by omega) p1_s (fun m _ hm => p1_n hm))) ?_
          exact ih (i + 1)  (by omega) (by omega) trivial
        ·
          refine g_iload C 0 rfl dX5_turnsBy_54 ?_
          refine g_if_ge C (tgt := 63) (by decide) dX5_turnsBy_56 (fun h56 => ?_) (fun h56 => absurd (nI_pos' (by have := hw9 (i + s) (by omega); have := hg9 i (by omega); omega)) h56)
          refine g_iconst C (v := (nI 0)) (by decide) dX5_turnsBy_63 ?_
          refine g_istore C (L' := [(9, .int (nI 0)), (8, .int (nI ((wh (i + s)) + (g i)))), (7, .int (nI i)), (6, .int (nI (D1 true wh g s i))), (5, .int (nI ((s + 5) + re))), (0, .ref (ad w 44)), (1, .ref (ad w 45)), (2, .int (nI 12)), (3, .int (nI s)), (4, .int (nI 1))]) (by decide) rfl dX5_turnsBy_64 ?_
          refine g_aload_n C 6 rfl rfl dX5_turnsBy_66 ?_
          refine g_iload_n C 7 rfl rfl dX5_turnsBy_67 ?_
          refine g_iload C 2 rfl dX5_turnsBy_68 ?_
          refine g_iadd C dX5_turnsBy_70 ?_
          refine g_top (y := (nI (12 + i))) (nI_add 12 i) ?_
          refine g_iload_n C 8 rfl rfl dX5_turnsBy_71 ?_
          refine g_iadd C dX5_turnsBy_72 ?_
          refine g_top (y := (nI ((12 + i) + s))) (nI_add (12 + i) s) ?_
          refine g_top (y := (nI (12 + (i + s)))) (congrArg nI (by omega)) ?_
          refine g_iload C 0 rfl dX5_turnsBy_73 ?_
          refine g_if_eq C (tgt := 89) (by decide) dX5_turnsBy_75 (fun h75 => ?_) (fun h75 => absurd h75 (by decide))
          refine g_iload C 1 rfl dX5_turnsBy_89 ?_
          refine g_top (y := nI (stp true (wh (i + s)) (g i))) (congrArg nI (by simp only [stp, if_true]; exact (if_neg (by omega)).symm)) ?_
          refine g_iastN C (12 + (i + s)) e_45 (by omega) (by decide) dX5_turnsBy_91 ?_
          refine g_sgE (sg' := (us sg 45 (upd (emb 12 (p1 true wh g s i) (sg 45)) (12 + (i + s)) (nI (stp true (wh (i + s)) (g i)))))) us_us ?_
          refine g_iload C 3 rfl dX5_turnsBy_92 ?_
          refine g_iload C 0 rfl dX5_turnsBy_94 ?_
          refine g_if_eq C (tgt := 110) (by decide) dX5_turnsBy_96 (fun h96 => ?_) (fun h96 => absurd h96 (by decide))
          refine g_iconst C (v := (nI 0)) (by decide) dX5_turnsBy_110 ?_
          refine g_ior C dX5_turnsBy_111 ?_
          refine g_top (y := nI (D1 true wh g s i ||| 0)) (or_nI _ _) ?_
          refine g_istore C (L' := [(6, .int (nI (D1 true wh g s i ||| 0))), (9, .int (nI 0)), (8, .int (nI ((wh (i + s)) + (g i)))), (7, .int (nI i)), (5, .int (nI ((s + 5) + re))), (0, .ref (ad w 44)), (1, .ref (ad w 45)), (2, .int (nI 12)), (3, .int (nI s)), (4, .int (nI 1))]) (by decide) rfl dX5_turnsBy_112 ?_
          refine g_iinc C (n := 1) (v := (nI (i + 1))) (L' := [(7, .int (nI (i + 1))), (6, .int (nI (D1 true wh g s i ||| 0))), (9, .int (nI 0)), (8, .int (nI ((wh (i + s)) + (g i)))), (5, .int (nI ((s + 5) + re))), (0, .ref (ad w 44)), (1, .ref (ad w 45)), (2, .int (nI 12)), (3, .int (nI s)), (4, .int (nI 1))]) 3 rfl (nI_add i 1) (by decide) rfl dX5_turnsBy_114 ?_
          refine g_goto C (tgt := 19) (by decide) dX5_turnsBy_117 ?_
          have hcr : cry true (wh (i + s)) (g i) = 0 := (by simp only [cry, if_true]; exact if_neg (by omega))
          have hD : D1 true wh g s (i + 1) = D1 true wh g s i ||| 0 := by
            show (if cry true (wh (i + s)) (g i) = 1 then _ else _) = _
            rw [hcr, if_neg (by decide), Nat.or_zero]
          refine g_sub (L' := [(7, .int (nI (i + 1))), (6, .int (nI (D1 true wh g s i ||| 0))), (5, .int (nI ((s + 5) + re))), (0, .ref (ad w 44)), (1, .ref (ad w 45)), (2, .int (nI 12)), (3, .int (nI s)), (4, .int (nI 1))]) [0, 1, 4, 5, 6, 7, 8, 9] rfl ?_
          refine g_eq (L' := [(7, .int (nI (i + 1))), (6, .int (nI (D1 true wh g s (i + 1)))), (5, .int (nI ((s + 5) + re))), (0, .ref (ad w 44)), (1, .ref (ad w 45)), (2, .int (nI 12)), (3, .int (nI s)), (4, .int (nI 1))]) rfl rfl (by rw [hD]) rfl ?_
          refine g_sgE (sg' := (us sg 45 (emb 12 (p1 true wh g s (i + 1)) (sg 45)))) (congrArg (us sg 45) (emb_upd (by omega) p1_s (fun m _ hm => p1_n hm))) ?_
          exact ih (i + 1)  (by omega) (by omega) trivial
  refine g_sgE (sg' := (us sg 45 (emb 12 (p1 true wh g s 0) (sg 45)))) (by rw [hemb0, us_id]) ?_
  refine g_sub (L' := [(7, .int (nI 0)), (6, .int (nI (D1 true wh g s 0))), (5, .int (nI ((s + 5) + re))), (0, .ref (ad w 44)), (1, .ref (ad w 45)), (2, .int (nI 12)), (3, .int (nI s)), (4, .int (nI 1))]) [0, 1, 2, 3, 4, 5, 6, 7] rfl ?_
  exact lpa (6 + 1) 0  (by omega) (by omega) trivial
set_option maxRecDepth 100000 in
set_option maxHeartbeats 4000000 in
theorem c_X5_turnsBy_now_dn (w : GW) (tu : Int64) (sg : Sg) (s : Nat) (wh g : Nat → Nat) (re : Nat) (hs6 : s ≤ 6) (hre : sg 45 32 = nI re) (hr12 : re ≤ 12) (hwh : ∀ k, k < 12 → sg 45 (12 + k) = nI (wh k)) (hw9 : ∀ k, k < 12 → wh k ≤ 9) (hgi : ∀ i, i < 6 → sg 50 i = nI (g i)) (hg9 : ∀ i, i < 6 → g i ≤ 9) : Kt w yX5_turnsBy cX5_turnsBy 10 (some .boolean) 0 [.ref (ad w 44), .ref (ad w 45), .int (nI 12), .int (nI s), .int (-1)] sg tu (some (.int (bI (blP false wh g s (s + 5 + re))))) (us sg 45 (emb 12 (tw false wh g s (s + 5 + re)) (sg 45))) tu := by
  refine Kt.of2 RX5 rfl [(0, .ref (ad w 44)), (1, .ref (ad w 45)), (2, .int (nI 12)), (3, .int (nI s)), (4, .int (-1))] (by decide) rfl (Nat.le_of_ble_eq_true rfl) (fun z C E => ?_)
  have hemb0 : emb 12 (p1 false wh g s 0) (sg 45) = sg 45 := by
    funext j
    unfold emb
    split
    · rename_i hj
      rw [p1_0, ← hwh (j - 12) (by omega)]
      congr 1
      omega
    · rfl
  refine g_iload_n C 3 rfl rfl dX5_turnsBy_0 ?_
  refine g_iconst C (v := (nI 5)) (by decide) dX5_turnsBy_1 ?_
  refine g_iadd C dX5_turnsBy_2 ?_
  refine g_top (y := (nI (s + 5))) (nI_add s 5) ?_
  refine g_aload_n C 0 rfl rfl dX5_turnsBy_3 ?_
  refine g_getR C (j := 0) cls5 e_44 rfl (by decide) fl_X5_7 dX5_turnsBy_4 ?_
  refine g_bipush C (v := (nI 32)) (by decide) dX5_turnsBy_7 ?_
  refine g_ialdN C 32 e_45 (by decide) (by decide) dX5_turnsBy_9 ?_
  refine g_top (y := (nI re)) hre ?_
  refine g_iadd C dX5_turnsBy_10 ?_
  refine g_top (y := (nI ((s + 5) + re))) (nI_add (s + 5) re) ?_
  refine g_istore C (L' := [(5, .int (nI ((s + 5) + re))), (0, .ref (ad w 44)), (1, .ref (ad w 45)), (2, .int (nI 12)), (3, .int (nI s)), (4, .int (-1))]) (by decide) rfl dX5_turnsBy_11 ?_
  refine g_iconst C (v := (nI 0)) (by decide) dX5_turnsBy_13 ?_
  refine g_istore C (L' := [(6, .int (nI 0)), (5, .int (nI ((s + 5) + re))), (0, .ref (ad w 44)), (1, .ref (ad w 45)), (2, .int (nI 12)), (3, .int (nI s)), (4, .int (-1))]) (by decide) rfl dX5_turnsBy_14 ?_
  refine g_iconst C (v := (nI 0)) (by decide) dX5_turnsBy_16 ?_
  refine g_istore C (L' := [(7, .int (nI 0)), (6, .int (nI 0)), (5, .int (nI ((s + 5) + re))), (0, .ref (ad w 44)), (1, .ref (ad w 45)), (2, .int (nI 12)), (3, .int (nI s)), (4, .int (-1))]) (by decide) rfl dX5_turnsBy_17 ?_
  have lpa : ∀ (nf i : Nat), 6 < i + nf → i ≤ 6 → (True) → G z w 10 (us sg 45 (emb 12 (p1 false wh g s i) (sg 45))) tu 19 [(7, .int (nI i)), (6, .int (nI (D1 false wh g s i))), (5, .int (nI ((s + 5) + re))), (0, .ref (ad w 44)), (1, .ref (ad w 45)), (2, .int (nI 12)), (3, .int (nI s)), (4, .int (-1))] [] := by
    intro nf
    induction nf with
    | zero => intro i  h1 h2 hI; exact absurd h1 (by omega)
    | succ nf ih =>
      intro i  h1 h2 hI
      refine g_iload C 0 rfl dX5_turnsBy_19 ?_
      refine g_bipush C (v := (nI 6)) (by decide) dX5_turnsBy_21 ?_
      refine g_icmpN_ge C i 6 (by omega) (by omega) (tgt := 120) (by decide) dX5_turnsBy_23 (fun h23 => ?_) (fun h23 => ?_)
      ·
        have hiN : i = 6 := by omega
        subst hiN
        refine g_iload_n C 6 rfl rfl dX5_turnsBy_120 ?_
        refine g_istore C (L' := [(7, .int (nI s)), (6, .int (nI (D1 false wh g s 6))), (5, .int (nI ((s + 5) + re))), (0, .ref (ad w 44)), (1, .ref (ad w 45)), (2, .int (nI 12)), (3, .int (nI s)), (4, .int (-1))]) (by decide) rfl dX5_turnsBy_121 ?_
        have lpb : ∀ (nf k D : Nat), 12 < k + nf → k ≤ 12 → s ≤ k → D2 false wh g s (s + 5 + re) k D → G z w 10 (us sg 45 (emb 12 (q2 false wh g s (s + 5 + re) k) (sg 45))) tu 123 [(7, .int (nI k)), (6, .int (nI D)), (5, .int (nI ((s + 5) + re))), (0, .ref (ad w 44)), (1, .ref (ad w 45)), (2, .int (nI 12)), (3, .int (nI s)), (4, .int (-1))] [] := by
          intro nf
          induction nf with
          | zero => intro k D h1 h2 h3 hD; exact absurd h1 (by omega)
          | succ nf ih =>
            intro k D h1 h2 h3 hD
            have hD31 : D < 2 ^ 31 := Nat.lt_of_lt_of_le hD.1 (by decide)
            refine g_iload C 0 rfl dX5_turnsBy_123 ?_
            refine g_bipush C (v := (nI 12)) (by decide) dX5_turnsBy_125 ?_
            refine g_icmpN_ge C k 12 (by omega) (by omega) (tgt := 228) (by decide) dX5_turnsBy_127 (fun h127 => ?_) (fun h127 => ?_)
            ·
              have hkN : k = 12 := by omega
              subst hkN
              refine g_iload C 1 rfl dX5_turnsBy_228 ?_
              refine g_bipush C (v := (nI 12)) (by decide) dX5_turnsBy_230 ?_
              refine g_ishr C dX5_turnsBy_232 ?_
              refine g_iconst C (v := (nI 1)) (by decide) dX5_turnsBy_233 ?_
              refine g_iand C dX5_turnsBy_234 ?_
              refine g_top (y := nI (D / 2 ^ 12 % 2)) (bt_nI hD31 (by omega)) ?_
              refine g_iconst C (v := (nI 1)) (by decide) dX5_turnsBy_235 ?_
              refine g_icmpN_ne C (D / 2 ^ 12 % 2) 1 (by omega) (by omega) (tgt := 250) (by decide) dX5_turnsBy_236 (fun h236 => ?_) (fun h236 => ?_)
              ·
                refine g_iconst C (v := (nI 0)) (by decide) dX5_turnsBy_250 ?_
                exact g_zret C E dX5_turnsBy_251 (by decide +kernel) (bI_f (fun q => h236 (tb_iff.mpr (hD.2.1.mpr q.1)))).symm (Sq.us fun j hj => congrFun (emb_eq (fun m hm => q2_end hm)) j) rfl
              ·
                refine g_bipush C (v := (nI 12)) (by decide) dX5_turnsBy_239 ?_
                refine g_iload C 2 rfl dX5_turnsBy_241 ?_
                refine g_icmpN_gt C 12 ((s + 5) + re) (by omega) (by omega) (tgt := 250) (by decide) dX5_turnsBy_243 (fun h243 => ?_) (fun h243 => ?_)
                ·
                  refine g_iconst C (v := (nI 0)) (by decide) dX5_turnsBy_250 ?_
                  exact g_zret C E dX5_turnsBy_251 (by decide +kernel) (bI_f (fun q => absurd q.2 (by omega))).symm (Sq.us fun j hj => congrFun (emb_eq (fun m hm => q2_end hm)) j) rfl
                ·
                  refine g_iconst C (v := (nI 1)) (by decide) dX5_turnsBy_246 ?_
                  refine g_goto C (tgt := 251) (by decide) dX5_turnsBy_247 ?_
                  exact g_zret C E dX5_turnsBy_251 (by decide +kernel) (bI_t ⟨hD.2.1.mp (tb_iff.mp h236), h243⟩).symm (Sq.us fun j hj => congrFun (emb_eq (fun m hm => q2_end hm)) j) rfl
            ·
              have hq := q2_s hw9 hg9 h3 (show k < 12 by omega) (by omega) hD
              have hqk9 : q2 false wh g s (s + 5 + re) k k ≤ 9 := by rw [q2_kk]; exact p1_le hw9 hg9 (Nat.le_refl 6) (by omega)
              refine g_iload C 1 rfl dX5_turnsBy_130 ?_
              refine g_iload C 0 rfl dX5_turnsBy_132 ?_
              refine g_ishr C dX5_turnsBy_134 ?_
              refine g_iconst C (v := (nI 1)) (by decide) dX5_turnsBy_135 ?_
              refine g_iand C dX5_turnsBy_136 ?_
              refine g_top (y := nI (D / 2 ^ k % 2)) (bt_nI hD31 (by omega)) ?_
              refine g_iconst C (v := (nI 1)) (by decide) dX5_turnsBy_137 ?_
              refine g_icmpN_ne C (D / 2 ^ k % 2) 1 (by omega) (by omega) (tgt := 222) (by decide) dX5_turnsBy_138 (fun h138 => ?_) (fun h138 => ?_)
              ·
                have hno : ¬ (D.testBit k = true ∧ k ≤ (s + 5 + re)) := fun q => h138 (tb_iff.mpr q.1)
                refine g_iinc C (n := 1) (v := (nI (k + 1))) (L' := [(7, .int (nI (k + 1))), (6, .int (nI D)), (5, .int (nI ((s + 5) + re))), (0, .ref (ad w 44)), (1, .ref (ad w 45)), (2, .int (nI 12)), (3, .int (nI s)), (4, .int (-1))]) 0 rfl (nI_add k 1) (by decide) rfl dX5_turnsBy_222 ?_
                refine g_goto C (tgt := 123) (by decide) dX5_turnsBy_225 ?_
                refine g_sub (L' := [(7, .int (nI (k + 1))), (6, .int (nI D)), (5, .int (nI ((s + 5) + re))), (0, .ref (ad w 44)), (1, .ref (ad w 45)), (2, .int (nI 12)), (3, .int (nI s)), (4, .int (-1))]) [0, 1, 2, 3, 4, 5, 6, 7] rfl ?_
                refine g_sgE (sg' := (us sg 45 (emb 12 (q2 false wh g s (s + 5 + re) (k + 1)) (sg 45)))) (congrArg (us sg 45) (emb_eq (fun m _ => q2_no (hq.2 hno).1 m))) ?_
                exact ih (k + 1) D (by omega) (by omega) (by omega) (hq.2 hno).2
              ·
                refine g_iload C 0 rfl dX5_turnsBy_141 ?_
                refine g_iload C 2 rfl dX5_turnsBy_143 ?_
                refine g_icmpN_gt C k ((s + 5) + re) (by omega) (by omega) (tgt := 222) (by decide) dX5_turnsBy_145 (fun h145 => ?_) (fun h145 => ?_)
                ·
                  have hno : ¬ (D.testBit k = true ∧ k ≤ (s + 5 + re)) := fun q => absurd q.2 (by omega)
                  refine g_iinc C (n := 1) (v := (nI (k + 1))) (L' := [(7, .int (nI (k + 1))), (6, .int (nI D)), (5, .int (nI ((s + 5) + re))), (0, .ref (ad w 44)), (1, .ref (ad w 45)), (2, .int (nI 12)), (3, .int (nI s)), (4, .int (-1))]) 0 rfl (nI_add k 1) (by decide) rfl dX5_turnsBy_222 ?_
                  refine g_goto C (tgt := 123) (by decide) dX5_turnsBy_225 ?_
                  refine g_sub (L' := [(7, .int (nI (k + 1))), (6, .int (nI D)), (5, .int (nI ((s + 5) + re))), (0, .ref (ad w 44)), (1, .ref (ad w 45)), (2, .int (nI 12)), (3, .int (nI s)), (4, .int (-1))]) [0, 1, 2, 3, 4, 5, 6, 7] rfl ?_
                  refine g_sgE (sg' := (us sg 45 (emb 12 (q2 false wh g s (s + 5 + re) (k + 1)) (sg 45)))) (congrArg (us sg 45) (emb_eq (fun m _ => q2_no (hq.2 hno).1 m))) ?_
                  exact ih (k + 1) D (by omega) (by omega) (by omega) (hq.2 hno).2
                ·
                  have hyes : D.testBit k = true ∧ k ≤ (s + 5 + re) := ⟨tb_iff.mp h138, by omega⟩
                  refine g_aload_n C 4 rfl rfl dX5_turnsBy_148 ?_
                  refine g_iload_n C 5 rfl rfl dX5_turnsBy_149 ?_
                  refine g_iload C 0 rfl dX5_turnsBy_150 ?_
                  refine g_iadd C dX5_turnsBy_152 ?_
                  refine g_top (y := (nI (12 + k))) (nI_add 12 k) ?_
                  refine g_ialdN C (12 + k) e_45 (by omega) (by decide) dX5_turnsBy_153 ?_
                  refine g_top (y := ((emb 12 (q2 false wh g s (s + 5 + re) k) (sg 45)) (12 + k))) rfl ?_
                  refine g_top (y := nI (q2 false wh g s (s + 5 + re) k k)) (emb_in (by omega)) ?_
                  refine g_iload C 7 rfl dX5_turnsBy_154 ?_
                  refine g_iadd C dX5_turnsBy_156 ?_
                  by_cases hc : 1 ≤ q2 false wh g s (s + 5 + re) k k
                  ·
                    refine g_top (y := nI (q2 false wh g s (s + 5 + re) k k - 1)) (dn_C _ (by omega) hc) ?_
                    refine g_istore C (L' := [(8, .int (nI (q2 false wh g s (s + 5 + re) k k - 1))), (7, .int (nI k)), (6, .int (nI D)), (5, .int (nI ((s + 5) + re))), (0, .ref (ad w 44)), (1, .ref (ad w 45)), (2, .int (nI 12)), (3, .int (nI s)), (4, .int (-1))]) (by decide) rfl dX5_turnsBy_157 ?_
                    refine g_iload C 0 rfl dX5_turnsBy_159 ?_
                    refine g_bipush C (v := (nI 9)) (by decide) dX5_turnsBy_161 ?_
                    refine g_icmpN_gt C (q2 false wh g s (s + 5 + re) k k - 1) 9 (by omega) (by omega) (tgt := 171) (by decide) dX5_turnsBy_163 (fun h163 => absurd h163 (by omega)) (fun h163 => ?_)
                    refine g_iload C 0 rfl dX5_turnsBy_166 ?_
                    refine g_if_ge C (tgt := 175) (by decide) dX5_turnsBy_168 (fun h168 => ?_) (fun h168 => absurd (nI_pos' (by omega)) h168)
                    refine g_iconst C (v := (nI 0)) (by decide) dX5_turnsBy_175 ?_
                    refine g_istore C (L' := [(9, .int (nI 0)), (8, .int (nI (q2 false wh g s (s + 5 + re) k k - 1))), (7, .int (nI k)), (6, .int (nI D)), (5, .int (nI ((s + 5) + re))), (0, .ref (ad w 44)), (1, .ref (ad w 45)), (2, .int (nI 12)), (3, .int (nI s)), (4, .int (-1))]) (by decide) rfl dX5_turnsBy_176 ?_
                    refine g_aload_n C 6 rfl rfl dX5_turnsBy_178 ?_
                    refine g_iload_n C 7 rfl rfl dX5_turnsBy_179 ?_
                    refine g_iload C 2 rfl dX5_turnsBy_180 ?_
                    refine g_iadd C dX5_turnsBy_182 ?_
                    refine g_top (y := (nI (12 + k))) (nI_add 12 k) ?_
                    refine g_iload C 0 rfl dX5_turnsBy_183 ?_
                    refine g_if_eq C (tgt := 199) (by decide) dX5_turnsBy_185 (fun h185 => ?_) (fun h185 => absurd h185 (by decide))
                    refine g_iload C 1 rfl dX5_turnsBy_199 ?_
                    refine g_top (y := nI (stp false (q2 false wh g s (s + 5 + re) k k) 1)) (congrArg nI (by simp only [stp, Bool.false_eq_true, if_false]; exact (if_neg (by omega)).symm)) ?_
                    refine g_iastN C (12 + k) e_45 (by omega) (by decide) dX5_turnsBy_201 ?_
                    refine g_sgE (sg' := (us sg 45 (upd (emb 12 (q2 false wh g s (s + 5 + re) k) (sg 45)) (12 + k) (nI (stp false (q2 false wh g s (s + 5 + re) k k) 1))))) us_us ?_
                    refine g_iload C 3 rfl dX5_turnsBy_202 ?_
                    refine g_iload C 0 rfl dX5_turnsBy_204 ?_
                    refine g_if_eq C (tgt := 218) (by decide) dX5_turnsBy_206 (fun h206 => ?_) (fun h206 => absurd h206 (by decide))
                    refine g_iconst C (v := (nI 0)) (by decide) dX5_turnsBy_218 ?_
                    refine g_ior C dX5_turnsBy_219 ?_
                    refine g_top (y := nI (D ||| 0)) (or_nI _ _) ?_
                    have hcr : ¬ cry false (q2 false wh g s (s + 5 + re) k k) 1 = 1 := (by simp only [cry, Bool.false_eq_true, if_false]; rw [if_neg (by omega)]; decide)
                    refine g_istore C (L' := [(6, .int (nI (D ||| 0))), (9, .int (nI 0)), (8, .int (nI (q2 false wh g s (s + 5 + re) k k - 1))), (7, .int (nI k)), (5, .int (nI ((s + 5) + re))), (0, .ref (ad w 44)), (1, .ref (ad w 45)), (2, .int (nI 12)), (3, .int (nI s)), (4, .int (-1))]) (by decide) rfl dX5_turnsBy_220 ?_
                    refine g_iinc C (n := 1) (v := (nI (k + 1))) (L' := [(7, .int (nI (k + 1))), (6, .int (nI (D ||| 0))), (9, .int (nI 0)), (8, .int (nI (q2 false wh g s (s + 5 + re) k k - 1))), (5, .int (nI ((s + 5) + re))), (0, .ref (ad w 44)), (1, .ref (ad w 45)), (2, .int (nI 12)), (3, .int (nI s)), (4, .int (-1))]) 3 rfl (nI_add k 1) (by decide) rfl dX5_turnsBy_222 ?_
                    refine g_goto C (tgt := 123) (by decide) dX5_turnsBy_225 ?_
                    refine g_sub (L' := [(7, .int (nI (k + 1))), (6, .int (nI (D ||| 0))), (5, .int (nI ((s + 5) + re))), (0, .ref (ad w 44)), (1, .ref (ad w 45)), (2, .int (nI 12)), (3, .int (nI s)), (4, .int (-1))]) [0, 1, 4, 5, 6, 7, 8, 9] rfl ?_
                    refine g_sgE (sg' := (us sg 45 (emb 12 (q2 false wh g s (s + 5 + re) (k + 1)) (sg 45)))) (congrArg (us sg 45) (emb_upd (by omega) (by rw [q2_k]; exact (hq.1 hyes).1) (fun m _ hm => q2_n hm))) ?_
                    exact ih (k + 1) (D ||| 0) (by omega) (by omega) (by omega) (by rw [Nat.or_zero]; exact (hq.1 hyes).2.2 hcr)
                  ·
                    have hq0 : q2 false wh g s (s + 5 + re) k k = 0 := by omega
                    refine g_top (y := nI 0 + (-1)) (by rw [hq0]) ?_
                    refine g_istore C (L' := [(8, .int (nI 0 + (-1))), (7, .int (nI k)), (6, .int (nI D)), (5, .int (nI ((s + 5) + re))), (0, .ref (ad w 44)), (1, .ref (ad w 45)), (2, .int (nI 12)), (3, .int (nI s)), (4, .int (-1))]) (by decide) rfl dX5_turnsBy_157 ?_
                    refine g_iload C 0 rfl dX5_turnsBy_159 ?_
                    refine g_bipush C (v := (nI 9)) (by decide) dX5_turnsBy_161 ?_
                    refine g_icmp_gt C (tgt := 171) (by decide) dX5_turnsBy_163 (fun h163 => absurd h163 (by decide)) (fun h163 => ?_)
                    refine g_iload C 0 rfl dX5_turnsBy_166 ?_
                    refine g_if_ge C (tgt := 175) (by decide) dX5_turnsBy_168 (fun h168 => absurd h168 (by decide)) (fun h168 => ?_)
                    refine g_iconst C (v := (nI 1)) (by decide) dX5_turnsBy_171 ?_
                    refine g_goto C (tgt := 176) (by decide) dX5_turnsBy_172 ?_
                    refine g_istore C (L' := [(9, .int (nI 1)), (8, .int (nI 0 + (-1))), (7, .int (nI k)), (6, .int (nI D)), (5, .int (nI ((s + 5) + re))), (0, .ref (ad w 44)), (1, .ref (ad w 45)), (2, .int (nI 12)), (3, .int (nI s)), (4, .int (-1))]) (by decide) rfl dX5_turnsBy_176 ?_
                    refine g_aload_n C 6 rfl rfl dX5_turnsBy_178 ?_
                    refine g_iload_n C 7 rfl rfl dX5_turnsBy_179 ?_
                    refine g_iload C 2 rfl dX5_turnsBy_180 ?_
                    refine g_iadd C dX5_turnsBy_182 ?_
                    refine g_top (y := (nI (12 + k))) (nI_add 12 k) ?_
                    refine g_iload C 0 rfl dX5_turnsBy_183 ?_
                    refine g_if_eq C (tgt := 199) (by decide) dX5_turnsBy_185 (fun h185 => absurd h185 (by decide)) (fun h185 => ?_)
                    refine g_iload C 1 rfl dX5_turnsBy_188 ?_
                    refine g_bipush C (v := (nI 10)) (by decide) dX5_turnsBy_190 ?_
                    refine g_iload C 9 rfl dX5_turnsBy_192 ?_
                    refine g_imul C dX5_turnsBy_194 ?_
                    refine g_isub C dX5_turnsBy_195 ?_
                    refine g_top (y := nI (stp false (q2 false wh g s (s + 5 + re) k k) 1)) (by rw [hq0]; decide) ?_
                    refine g_goto C (tgt := 201) (by decide) dX5_turnsBy_196 ?_
                    refine g_iastN C (12 + k) e_45 (by omega) (by decide) dX5_turnsBy_201 ?_
                    refine g_sgE (sg' := (us sg 45 (upd (emb 12 (q2 false wh g s (s + 5 + re) k) (sg 45)) (12 + k) (nI (stp false (q2 false wh g s (s + 5 + re) k k) 1))))) us_us ?_
                    refine g_iload C 3 rfl dX5_turnsBy_202 ?_
                    refine g_iload C 0 rfl dX5_turnsBy_204 ?_
                    refine g_if_eq C (tgt := 218) (by decide) dX5_turnsBy_206 (fun h206 => absurd h206 (by decide)) (fun h206 => ?_)
                    refine g_iconst C (v := (nI 1)) (by decide) dX5_turnsBy_209 ?_
                    refine g_iload C 2 rfl dX5_turnsBy_210 ?_
                    refine g_iconst C (v := (nI 1)) (by decide) dX5_turnsBy_212 ?_
                    refine g_iadd C dX5_turnsBy_213 ?_
                    refine g_top (y := (nI (k + 1))) (nI_add k 1) ?_
                    refine g_ishl C dX5_turnsBy_214 ?_
                    refine g_top (y := nI (2 ^ (k + 1))) (sh_nI (by omega)) ?_
                    refine g_goto C (tgt := 219) (by decide) dX5_turnsBy_215 ?_
                    refine g_ior C dX5_turnsBy_219 ?_
                    refine g_top (y := nI (D ||| 2 ^ (k + 1))) (or_nI _ _) ?_
                    have hcr : cry false (q2 false wh g s (s + 5 + re) k k) 1 = 1 := (by rw [hq0]; decide)
                    refine g_istore C (L' := [(6, .int (nI (D ||| 2 ^ (k + 1)))), (9, .int (nI 1)), (8, .int (nI 0 + (-1))), (7, .int (nI k)), (5, .int (nI ((s + 5) + re))), (0, .ref (ad w 44)), (1, .ref (ad w 45)), (2, .int (nI 12)), (3, .int (nI s)), (4, .int (-1))]) (by decide) rfl dX5_turnsBy_220 ?_
                    refine g_iinc C (n := 1) (v := (nI (k + 1))) (L' := [(7, .int (nI (k + 1))), (6, .int (nI (D ||| 2 ^ (k + 1)))), (9, .int (nI 1)), (8, .int (nI 0 + (-1))), (5, .int (nI ((s + 5) + re))), (0, .ref (ad w 44)), (1, .ref (ad w 45)), (2, .int (nI 12)), (3, .int (nI s)), (4, .int (-1))]) 3 rfl (nI_add k 1) (by decide) rfl dX5_turnsBy_222 ?_
                    refine g_goto C (tgt := 123) (by decide) dX5_turnsBy_225 ?_
                    refine g_sub (L' := [(7, .int (nI (k + 1))), (6, .int (nI (D ||| 2 ^ (k + 1)))), (5, .int (nI ((s + 5) + re))), (0, .ref (ad w 44)), (1, .ref (ad w 45)), (2, .int (nI 12)), (3, .int (nI s)), (4, .int (-1))]) [0, 1, 4, 5, 6, 7, 8, 9] rfl ?_
                    refine g_sgE (sg' := (us sg 45 (emb 12 (q2 false wh g s (s + 5 + re) (k + 1)) (sg 45)))) (congrArg (us sg 45) (emb_upd (by omega) (by rw [q2_k]; exact (hq.1 hyes).1) (fun m _ hm => q2_n hm))) ?_
                    exact ih (k + 1) (D ||| 2 ^ (k + 1)) (by omega) (by omega) (by omega) ((hq.1 hyes).2.1 hcr)
        refine g_sgE (sg' := (us sg 45 (emb 12 (q2 false wh g s (s + 5 + re) s) (sg 45)))) (congrArg (us sg 45) (emb_eq (fun m _ => q2_beg.symm))) ?_
        refine g_sub (L' := [(7, .int (nI s)), (6, .int (nI (D1 false wh g s 6))), (5, .int (nI ((s + 5) + re))), (0, .ref (ad w 44)), (1, .ref (ad w 45)), (2, .int (nI 12)), (3, .int (nI s)), (4, .int (-1))]) [0, 1, 2, 3, 4, 5, 6, 7] rfl ?_
        exact lpb 13 s (D1 false wh g s 6) (by omega) (by omega) (Nat.le_refl _) (D2_0 (by omega))
      ·
        refine g_aload_n C 4 rfl rfl dX5_turnsBy_26 ?_
        refine g_iload_n C 5 rfl rfl dX5_turnsBy_27 ?_
        refine g_iload C 0 rfl dX5_turnsBy_28 ?_
        refine g_iadd C dX5_turnsBy_30 ?_
        refine g_top (y := (nI (12 + i))) (nI_add 12 i) ?_
        refine g_iload_n C 6 rfl rfl dX5_turnsBy_31 ?_
        refine g_iadd C dX5_turnsBy_32 ?_
        refine g_top (y := (nI ((12 + i) + s))) (nI_add (12 + i) s) ?_
        refine g_top (y := (nI (12 + (i + s)))) (congrArg nI (by omega)) ?_
        refine g_ialdN C (12 + (i + s)) e_45 (by omega) (by decide) dX5_turnsBy_33 ?_
        refine g_top (y := ((emb 12 (p1 false wh g s i) (sg 45)) (12 + (i + s)))) rfl ?_
        refine g_top (y := nI (wh (i + s))) (by rw [emb_in (by omega), p1_at]) ?_
        have hb1 := hw9 (i + s) (by omega)
        have hb2 := hg9 i (by omega)
        refine g_iload C 7 rfl dX5_turnsBy_34 ?_
        refine g_aload_n C 3 rfl rfl dX5_turnsBy_36 ?_
        refine g_getR C (j := 7) cls5 e_44 rfl (by decide) fl_X5_25 dX5_turnsBy_37 ?_
        refine g_iload C 0 rfl dX5_turnsBy_40 ?_
        refine g_ialdN C i e_50 (by omega) (by decide) dX5_turnsBy_42 ?_
        refine g_top (y := (sg 50 i)) rfl ?_
        refine g_top (y := nI (g i)) (hgi i (by omega)) ?_
        refine g_imul C dX5_turnsBy_43 ?_
        refine g_iadd C dX5_turnsBy_44 ?_
        by_cases hc : g i ≤ wh (i + s)
        ·
          refine g_top (y := nI (wh (i + s) - g i)) (dn_A _ (by have := hw9 (i + s) (by omega); omega) _ (by have := hg9 i (by omega); omega) hc) ?_
          refine g_istore C (L' := [(8, .int (nI (wh (i + s) - g i))), (7, .int (nI i)), (6, .int (nI (D1 false wh g s i))), (5, .int (nI ((s + 5) + re))), (0, .ref (ad w 44)), (1, .ref (ad w 45)), (2, .int (nI 12)), (3, .int (nI s)), (4, .int (-1))]) (by decide) rfl dX5_turnsBy_45 ?_
          refine g_iload C 0 rfl dX5_turnsBy_47 ?_
          refine g_bipush C (v := (nI 9)) (by decide) dX5_turnsBy_49 ?_
          refine g_icmpN_gt C (wh (i + s) - g i) 9 (by omega) (by omega) (tgt := 59) (by decide) dX5_turnsBy_51 (fun h51 => absurd h51 (by have := hw9 (i + s) (by omega); omega)) (fun h51 => ?_)
          refine g_iload C 0 rfl dX5_turnsBy_54 ?_
          refine g_if_ge C (tgt := 63) (by decide) dX5_turnsBy_56 (fun h56 => ?_) (fun h56 => absurd (nI_pos' (by have := hw9 (i + s) (by omega); have := hg9 i (by omega); omega)) h56)
          refine g_iconst C (v := (nI 0)) (by decide) dX5_turnsBy_63 ?_
          refine g_istore C (L' := [(9, .int (nI 0)), (8, .int (nI (wh (i + s) - g i))), (7, .int (nI i)), (6, .int (nI (D1 false wh g s i))), (5, .int (nI ((s + 5) + re))), (0, .ref (ad w 44)), (1, .ref (ad w 45)), (2, .int (nI 12)), (3, .int (nI s)), (4, .int (-1))]) (by decide) rfl dX5_turnsBy_64 ?_
          refine g_aload_n C 6 rfl rfl dX5_turnsBy_66 ?_
          refine g_iload_n C 7 rfl rfl dX5_turnsBy_67 ?_
          refine g_iload C 2 rfl dX5_turnsBy_68 ?_
          refine g_iadd C dX5_turnsBy_70 ?_
          refine g_top (y := (nI (12 + i))) (nI_add 12 i) ?_
          refine g_iload_n C 8 rfl rfl dX5_turnsBy_71 ?_
          refine g_iadd C dX5_turnsBy_72 ?_
          refine g_top (y := (nI ((12 + i) + s))) (nI_add (12 + i) s) ?_
          refine g_top (y := (nI (12 + (i + s)))) (congrArg nI (by omega)) ?_
          refine g_iload C 0 rfl dX5_turnsBy_73 ?_
          refine g_if_eq C (tgt := 89) (by decide) dX5_turnsBy_75 (fun h75 => ?_) (fun h75 => absurd h75 (by decide))
          refine g_iload C 1 rfl dX5_turnsBy_89 ?_
          refine g_top (y := nI (stp false (wh (i + s)) (g i))) (congrArg nI (by simp only [stp, Bool.false_eq_true, if_false]; exact (if_neg (by omega)).symm)) ?_
          refine g_iastN C (12 + (i + s)) e_45 (by omega) (by decide) dX5_turnsBy_91 ?_
          refine g_sgE (sg' := (us sg 45 (upd (emb 12 (p1 false wh g s i) (sg 45)) (12 + (i + s)) (nI (stp false (wh (i + s)) (g i)))))) us_us ?_
          refine g_iload C 3 rfl dX5_turnsBy_92 ?_
          refine g_iload C 0 rfl dX5_turnsBy_94 ?_
          refine g_if_eq C (tgt := 110) (by decide) dX5_turnsBy_96 (fun h96 => ?_) (fun h96 => absurd h96 (by decide))
          refine g_iconst C (v := (nI 0)) (by decide) dX5_turnsBy_110 ?_
          refine g_ior C dX5_turnsBy_111 ?_
          refine g_top (y := nI (D1 false wh g s i ||| 0)) (or_nI _ _) ?_
          refine g_istore C (L' := [(6, .int (nI (D1 false wh g s i ||| 0))), (9, .int (nI 0)), (8, .int (nI (wh (i + s) - g i))), (7, .int (nI i)), (5, .int (nI ((s + 5) + re))), (0, .ref (ad w 44)), (1, .ref (ad w 45)), (2, .int (nI 12)), (3, .int (nI s)), (4, .int (-1))]) (by decide) rfl dX5_turnsBy_112 ?_
          refine g_iinc C (n := 1) (v := (nI (i + 1))) (L' := [(7, .int (nI (i + 1))), (6, .int (nI (D1 false wh g s i ||| 0))), (9, .int (nI 0)), (8, .int (nI (wh (i + s) - g i))), (5, .int (nI ((s + 5) + re))), (0, .ref (ad w 44)), (1, .ref (ad w 45)), (2, .int (nI 12)), (3, .int (nI s)), (4, .int (-1))]) 3 rfl (nI_add i 1) (by decide) rfl dX5_turnsBy_114 ?_
          refine g_goto C (tgt := 19) (by decide) dX5_turnsBy_117 ?_
          have hcr : cry false (wh (i + s)) (g i) = 0 := (by simp only [cry, Bool.false_eq_true, if_false]; exact if_neg (by omega))
          have hD : D1 false wh g s (i + 1) = D1 false wh g s i ||| 0 := by
            show (if cry false (wh (i + s)) (g i) = 1 then _ else _) = _
            rw [hcr, if_neg (by decide), Nat.or_zero]
          refine g_sub (L' := [(7, .int (nI (i + 1))), (6, .int (nI (D1 false wh g s i ||| 0))), (5, .int (nI ((s + 5) + re))), (0, .ref (ad w 44)), (1, .ref (ad w 45)), (2, .int (nI 12)), (3, .int (nI s)), (4, .int (-1))]) [0, 1, 4, 5, 6, 7, 8, 9] rfl ?_
          refine g_eq (L' := [(7, .int (nI (i + 1))), (6, .int (nI (D1 false wh g s (i + 1)))), (5, .int (nI ((s + 5) + re))), (0, .ref (ad w 44)), (1, .ref (ad w 45)), (2, .int (nI 12)), (3, .int (nI s)), (4, .int (-1))]) rfl rfl (by rw [hD]) rfl ?_
          refine g_sgE (sg' := (us sg 45 (emb 12 (p1 false wh g s (i + 1)) (sg 45)))) (congrArg (us sg 45) (emb_upd (by omega) p1_s (fun m _ hm => p1_n hm))) ?_
          exact ih (i + 1)  (by omega) (by omega) trivial
        ·
          have hc2 := dn_B (wh (i + s)) (by have := hw9 (i + s) (by omega); omega) (g i) (by have := hg9 i (by omega); omega) (by omega)
          refine g_istore C (L' := [(8, .int ((nI (wh (i + s))) + ((-1) * (nI (g i))))), (7, .int (nI i)), (6, .int (nI (D1 false wh g s i))), (5, .int (nI ((s + 5) + re))), (0, .ref (ad w 44)), (1, .ref (ad w 45)), (2, .int (nI 12)), (3, .int (nI s)), (4, .int (-1))]) (by decide) rfl dX5_turnsBy_45 ?_
          refine g_iload C 0 rfl dX5_turnsBy_47 ?_
          refine g_bipush C (v := (nI 9)) (by decide) dX5_turnsBy_49 ?_
          refine g_icmp_gt C (tgt := 59) (by decide) dX5_turnsBy_51 (fun h51 => absurd (show nI 9 < _ from h51) (fun q => by have h9 := hc2.1; rw [Int32.lt_iff_toInt_lt] at h9 q; have e0 : (0 : Int32).toInt = 0 := (by decide); have e9 : (nI 9).toInt = 9 := (by decide); omega)) (fun h51 => ?_)
          refine g_iload C 0 rfl dX5_turnsBy_54 ?_
          refine g_if_ge C (tgt := 63) (by decide) dX5_turnsBy_56 (fun h56 => absurd hc2.1 (Int32.not_lt.mpr h56)) (fun h56 => ?_)
          refine g_iconst C (v := (nI 1)) (by decide) dX5_turnsBy_59 ?_
          refine g_goto C (tgt := 64) (by decide) dX5_turnsBy_60 ?_
          refine g_istore C (L' := [(9, .int (nI 1)), (8, .int ((nI (wh (i + s))) + ((-1) * (nI (g i))))), (7, .int (nI i)), (6, .int (nI (D1 false wh g s i))), (5, .int (nI ((s + 5) + re))), (0, .ref (ad w 44)), (1, .ref (ad w 45)), (2, .int (nI 12)), (3, .int (nI s)), (4, .int (-1))]) (by decide) rfl dX5_turnsBy_64 ?_
          refine g_aload_n C 6 rfl rfl dX5_turnsBy_66 ?_
          refine g_iload_n C 7 rfl rfl dX5_turnsBy_67 ?_
          refine g_iload C 2 rfl dX5_turnsBy_68 ?_
          refine g_iadd C dX5_turnsBy_70 ?_
          refine g_top (y := (nI (12 + i))) (nI_add 12 i) ?_
          refine g_iload_n C 8 rfl rfl dX5_turnsBy_71 ?_
          refine g_iadd C dX5_turnsBy_72 ?_
          refine g_top (y := (nI ((12 + i) + s))) (nI_add (12 + i) s) ?_
          refine g_top (y := (nI (12 + (i + s)))) (congrArg nI (by omega)) ?_
          refine g_iload C 0 rfl dX5_turnsBy_73 ?_
          refine g_if_eq C (tgt := 89) (by decide) dX5_turnsBy_75 (fun h75 => absurd h75 (by decide)) (fun h75 => ?_)
          refine g_iload C 1 rfl dX5_turnsBy_78 ?_
          refine g_bipush C (v := (nI 10)) (by decide) dX5_turnsBy_80 ?_
          refine g_iload C 9 rfl dX5_turnsBy_82 ?_
          refine g_imul C dX5_turnsBy_84 ?_
          refine g_isub C dX5_turnsBy_85 ?_
          refine g_top (y := nI (stp false (wh (i + s)) (g i))) (by rw [show stp false (wh (i + s)) (g i) = wh (i + s) + 10 - g i from by simp only [stp, Bool.false_eq_true, if_false]; exact if_pos (by omega)]; exact hc2.2) ?_
          refine g_goto C (tgt := 91) (by decide) dX5_turnsBy_86 ?_
          refine g_iastN C (12 + (i + s)) e_45 (by omega) (by decide) dX5_turnsBy_91 ?_
          refine g_sgE (sg' := (us sg 45 (upd (emb 12 (p1 false wh g s i) (sg 45)) (12 + (i + s)) (nI (stp false (wh (i + s)) (g i)))))) us_us ?_
          refine g_iload C 3 rfl dX5_turnsBy_92 ?_
          refine g_iload C 0 rfl dX5_turnsBy_94 ?_
          refine g_if_eq C (tgt := 110) (by decide) dX5_turnsBy_96 (fun h96 => absurd h96 (by decide)) (fun h96 => ?_)
          refine g_iconst C (v := (nI 1)) (by decide) dX5_turnsBy_99 ?_
          refine g_iload C 2 rfl dX5_turnsBy_100 ?_
          refine g_iload_n C 8 rfl rfl dX5_turnsBy_102 ?_
          refine g_iadd C dX5_turnsBy_103 ?_
          refine g_top (y := (nI (i + s))) (nI_add i s) ?_
          refine g_iconst C (v := (nI 1)) (by decide) dX5_turnsBy_104 ?_
          refine g_iadd C dX5_turnsBy_105 ?_
          refine g_top (y := (nI ((i + s) + 1))) (nI_add (i + s) 1) ?_
          refine g_ishl C dX5_turnsBy_106 ?_
          refine g_top (y := nI (2 ^ (i + s + 1))) (sh_nI (by omega)) ?_
          refine g_goto C (tgt := 111) (by decide) dX5_turnsBy_107 ?_
          refine g_ior C dX5_turnsBy_111 ?_
          refine g_top (y := nI (D1 false wh g s i ||| 2 ^ (i + s + 1))) (or_nI _ _) ?_
          refine g_istore C (L' := [(6, .int (nI (D1 false wh g s i ||| 2 ^ (i + s + 1)))), (9, .int (nI 1)), (8, .int ((nI (wh (i + s))) + ((-1) * (nI (g i))))), (7, .int (nI i)), (5, .int (nI ((s + 5) + re))), (0, .ref (ad w 44)), (1, .ref (ad w 45)), (2, .int (nI 12)), (3, .int (nI s)), (4, .int (-1))]) (by decide) rfl dX5_turnsBy_112 ?_
          refine g_iinc C (n := 1) (v := (nI (i + 1))) (L' := [(7, .int (nI (i + 1))), (6, .int (nI (D1 false wh g s i ||| 2 ^ (i + s + 1)))), (9, .int (nI 1)), (8, .int ((nI (wh (i + s))) + ((-1) * (nI (g i))))), (5, .int (nI ((s + 5) + re))), (0, .ref (ad w 44)), (1, .ref (ad w 45)), (2, .int (nI 12)), (3, .int (nI s)), (4, .int (-1))]) 3 rfl (nI_add i 1) (by decide) rfl dX5_turnsBy_114 ?_
          refine g_goto C (tgt := 19) (by decide) dX5_turnsBy_117 ?_
          have hcr : cry false (wh (i + s)) (g i) = 1 := (by simp only [cry, Bool.false_eq_true, if_false]; exact if_pos (by omega))
          have hD : D1 false wh g s (i + 1) = D1 false wh g s i ||| 2 ^ (i + s + 1) := by
            show (if cry false (wh (i + s)) (g i) = 1 then _ else _) = _
            rw [hcr, if_pos rfl]
          refine g_sub (L' := [(7, .int (nI (i + 1))), (6, .int (nI (D1 false wh g s i ||| 2 ^ (i + s + 1)))), (5, .int (nI ((s + 5) + re))), (0, .ref (ad w 44)), (1, .ref (ad w 45)), (2, .int (nI 12)), (3, .int (nI s)), (4, .int (-1))]) [0, 1, 4, 5, 6, 7, 8, 9] rfl ?_
          refine g_eq (L' := [(7, .int (nI (i + 1))), (6, .int (nI (D1 false wh g s (i + 1)))), (5, .int (nI ((s + 5) + re))), (0, .ref (ad w 44)), (1, .ref (ad w 45)), (2, .int (nI 12)), (3, .int (nI s)), (4, .int (-1))]) rfl rfl (by rw [hD]) rfl ?_
          refine g_sgE (sg' := (us sg 45 (emb 12 (p1 false wh g s (i + 1)) (sg 45)))) (congrArg (us sg 45) (emb_upd (by omega) p1_s (fun m _ hm => p1_n hm))) ?_
          exact ih (i + 1)  (by omega) (by omega) trivial
  refine g_sgE (sg' := (us sg 45 (emb 12 (p1 false wh g s 0) (sg 45)))) (by rw [hemb0, us_id]) ?_
  refine g_sub (L' := [(7, .int (nI 0)), (6, .int (nI (D1 false wh g s 0))), (5, .int (nI ((s + 5) + re))), (0, .ref (ad w 44)), (1, .ref (ad w 45)), (2, .int (nI 12)), (3, .int (nI s)), (4, .int (-1))]) [0, 1, 2, 3, 4, 5, 6, 7] rfl ?_
  exact lpa (6 + 1) 0  (by omega) (by omega) trivial
set_option maxRecDepth 100000 in
set_option maxHeartbeats 4000000 in
theorem c_X5_turnsBy_tri_up (w : GW) (tu : Int64) (sg : Sg) (wh g : Nat → Nat) (re : Nat) (hre : sg 45 32 = nI re) (hr12 : re ≤ 12) (hwh : ∀ k, k < 12 → sg 51 (0 + k) = nI (wh k)) (hw9 : ∀ k, k < 12 → wh k ≤ 9) (hgi : ∀ i, i < 6 → sg 50 i = nI (g i)) (hg9 : ∀ i, i < 6 → g i ≤ 9) : Kt w yX5_turnsBy cX5_turnsBy 10 (some .boolean) 0 [.ref (ad w 44), .ref (ad w 51), .int (nI 0), .int (nI 0), .int (nI 1)] sg tu (some (.int (bI (blP true wh g 0 (5 + re))))) (us sg 51 (emb 0 (tw true wh g 0 (5 + re)) (sg 51))) tu := by
  refine Kt.of2 RX5 rfl [(0, .ref (ad w 44)), (1, .ref (ad w 51)), (2, .int (nI 0)), (3, .int (nI 0)), (4, .int (nI 1))] (by decide) rfl (Nat.le_of_ble_eq_true rfl) (fun z C E => ?_)
  have hemb0 : emb 0 (p1 true wh g 0 0) (sg 51) = sg 51 := by
    funext j
    unfold emb
    split
    · rename_i hj
      rw [p1_0, ← hwh (j - 0) (by omega)]
      congr 1
      omega
    · rfl
  refine g_iload_n C 3 rfl rfl dX5_turnsBy_0 ?_
  refine g_iconst C (v := (nI 5)) (by decide) dX5_turnsBy_1 ?_
  refine g_iadd C dX5_turnsBy_2 ?_
  refine g_top (y := (nI 5)) (by rw [nI_add, Nat.zero_add]) ?_
  refine g_aload_n C 0 rfl rfl dX5_turnsBy_3 ?_
  refine g_getR C (j := 0) cls5 e_44 rfl (by decide) fl_X5_7 dX5_turnsBy_4 ?_
  refine g_bipush C (v := (nI 32)) (by decide) dX5_turnsBy_7 ?_
  refine g_ialdN C 32 e_45 (by decide) (by decide) dX5_turnsBy_9 ?_
  refine g_top (y := (nI re)) hre ?_
  refine g_iadd C dX5_turnsBy_10 ?_
  refine g_top (y := (nI (5 + re))) (nI_add 5 re) ?_
  refine g_istore C (L' := [(5, .int (nI (5 + re))), (0, .ref (ad w 44)), (1, .ref (ad w 51)), (2, .int (nI 0)), (3, .int (nI 0)), (4, .int (nI 1))]) (by decide) rfl dX5_turnsBy_11 ?_
  refine g_iconst C (v := (nI 0)) (by decide) dX5_turnsBy_13 ?_
  refine g_istore C (L' := [(6, .int (nI 0)), (5, .int (nI (5 + re))), (0, .ref (ad w 44)), (1, .ref (ad w 51)), (2, .int (nI 0)), (3, .int (nI 0)), (4, .int (nI 1))]) (by decide) rfl dX5_turnsBy_14 ?_
  refine g_iconst C (v := (nI 0)) (by decide) dX5_turnsBy_16 ?_
  refine g_istore C (L' := [(7, .int (nI 0)), (6, .int (nI 0)), (5, .int (nI (5 + re))), (0, .ref (ad w 44)), (1, .ref (ad w 51)), (2, .int (nI 0)), (3, .int (nI 0)), (4, .int (nI 1))]) (by decide) rfl dX5_turnsBy_17 ?_
  have lpa : ∀ (nf i : Nat), 6 < i + nf → i ≤ 6 → (True) → G z w 10 (us sg 51 (emb 0 (p1 true wh g 0 i) (sg 51))) tu 19 [(7, .int (nI i)), (6, .int (nI (D1 true wh g 0 i))), (5, .int (nI (5 + re))), (0, .ref (ad w 44)), (1, .ref (ad w 51)), (2, .int (nI 0)), (3, .int (nI 0)), (4, .int (nI 1))] [] := by
    intro nf
    induction nf with
    | zero => intro i  h1 h2 hI; exact absurd h1 (by omega)
    | succ nf ih =>
      intro i  h1 h2 hI
      refine g_iload C 0 rfl dX5_turnsBy_19 ?_
      refine g_bipush C (v := (nI 6)) (by decide) dX5_turnsBy_21 ?_
      refine g_icmpN_ge C i 6 (by omega) (by omega) (tgt := 120) (by decide) dX5_turnsBy_23 (fun h23 => ?_) (fun h23 => ?_)
      ·
        have hiN : i = 6 := by omega
        subst hiN
        refine g_iload_n C 6 rfl rfl dX5_turnsBy_120 ?_
        refine g_istore C (L' := [(7, .int (nI 0)), (6, .int (nI (D1 true wh g 0 6))), (5, .int (nI (5 + re))), (0, .ref (ad w 44)), (1, .ref (ad w 51)), (2, .int (nI 0)), (3, .int (nI 0)), (4, .int (nI 1))]) (by decide) rfl dX5_turnsBy_121 ?_
        have lpb : ∀ (nf k D : Nat), 12 < k + nf → k ≤ 12 → 0 ≤ k → D2 true wh g 0 (5 + re) k D → G z w 10 (us sg 51 (emb 0 (q2 true wh g 0 (5 + re) k) (sg 51))) tu 123 [(7, .int (nI k)), (6, .int (nI D)), (5, .int (nI (5 + re))), (0, .ref (ad w 44)), (1, .ref (ad w 51)), (2, .int (nI 0)), (3, .int (nI 0)), (4, .int (nI 1))] [] := by
          intro nf
          induction nf with
          | zero => intro k D h1 h2 h3 hD; exact absurd h1 (by omega)
          | succ nf ih =>
            intro k D h1 h2 h3 hD
            have hD31 : D < 2 ^ 31 := Nat.lt_of_lt_of_le hD.1 (by decide)
            refine g_iload C 0 rfl dX5_turnsBy_123 ?_
            refine g_bipush C (v := (nI 12)) (by decide) dX5_turnsBy_125 ?_
            refine g_icmpN_ge C k 12 (by omega) (by omega) (tgt := 228) (by decide) dX5_turnsBy_127 (fun h127 => ?_) (fun h127 => ?_)
            ·
              have hkN : k = 12 := by omega
              subst hkN
              refine g_iload C 1 rfl dX5_turnsBy_228 ?_
              refine g_bipush C (v := (nI 12)) (by decide) dX5_turnsBy_230 ?_
              refine g_ishr C dX5_turnsBy_232 ?_
              refine g_iconst C (v := (nI 1)) (by decide) dX5_turnsBy_233 ?_
              refine g_iand C dX5_turnsBy_234 ?_
              refine g_top (y := nI (D / 2 ^ 12 % 2)) (bt_nI hD31 (by omega)) ?_
              refine g_iconst C (v := (nI 1)) (by decide) dX5_turnsBy_235 ?_
              refine g_icmpN_ne C (D / 2 ^ 12 % 2) 1 (by omega) (by omega) (tgt := 250) (by decide) dX5_turnsBy_236 (fun h236 => ?_) (fun h236 => ?_)
              ·
                refine g_iconst C (v := (nI 0)) (by decide) dX5_turnsBy_250 ?_
                exact g_zret C E dX5_turnsBy_251 (by decide +kernel) (bI_f (fun q => h236 (tb_iff.mpr (hD.2.1.mpr q.1)))).symm (Sq.us fun j hj => congrFun (emb_eq (fun m hm => q2_end hm)) j) rfl
              ·
                refine g_bipush C (v := (nI 12)) (by decide) dX5_turnsBy_239 ?_
                refine g_iload C 2 rfl dX5_turnsBy_241 ?_
                refine g_icmpN_gt C 12 (5 + re) (by omega) (by omega) (tgt := 250) (by decide) dX5_turnsBy_243 (fun h243 => ?_) (fun h243 => ?_)
                ·
                  refine g_iconst C (v := (nI 0)) (by decide) dX5_turnsBy_250 ?_
                  exact g_zret C E dX5_turnsBy_251 (by decide +kernel) (bI_f (fun q => absurd q.2 (by omega))).symm (Sq.us fun j hj => congrFun (emb_eq (fun m hm => q2_end hm)) j) rfl
                ·
                  refine g_iconst C (v := (nI 1)) (by decide) dX5_turnsBy_246 ?_
                  refine g_goto C (tgt := 251) (by decide) dX5_turnsBy_247 ?_
                  exact g_zret C E dX5_turnsBy_251 (by decide +kernel) (bI_t ⟨hD.2.1.mp (tb_iff.mp h236), h243⟩).symm (Sq.us fun j hj => congrFun (emb_eq (fun m hm => q2_end hm)) j) rfl
            ·
              have hq := q2_s hw9 hg9 h3 (show k < 12 by omega) (by omega) hD
              have hqk9 : q2 true wh g 0 (5 + re) k k ≤ 9 := by rw [q2_kk]; exact p1_le hw9 hg9 (Nat.le_refl 6) (by omega)
              refine g_iload C 1 rfl dX5_turnsBy_130 ?_
              refine g_iload C 0 rfl dX5_turnsBy_132 ?_
              refine g_ishr C dX5_turnsBy_134 ?_
              refine g_iconst C (v := (nI 1)) (by decide) dX5_turnsBy_135 ?_
              refine g_iand C dX5_turnsBy_136 ?_
              refine g_top (y := nI (D / 2 ^ k % 2)) (bt_nI hD31 (by omega)) ?_
              refine g_iconst C (v := (nI 1)) (by decide) dX5_turnsBy_137 ?_
              refine g_icmpN_ne C (D / 2 ^ k % 2) 1 (by omega) (by omega) (tgt := 222) (by decide) dX5_turnsBy_138 (fun h138 => ?_) (fun h138 => ?_)
              ·
                have hno : ¬ (D.testBit k = true ∧ k ≤ (5 + re)) := fun q => h138 (tb_iff.mpr q.1)
                refine g_iinc C (n := 1) (v := (nI (k + 1))) (L' := [(7, .int (nI (k + 1))), (6, .int (nI D)), (5, .int (nI (5 + re))), (0, .ref (ad w 44)), (1, .ref (ad w 51)), (2, .int (nI 0)), (3, .int (nI 0)), (4, .int (nI 1))]) 0 rfl (nI_add k 1) (by decide) rfl dX5_turnsBy_222 ?_
                refine g_goto C (tgt := 123) (by decide) dX5_turnsBy_225 ?_
                refine g_sub (L' := [(7, .int (nI (k + 1))), (6, .int (nI D)), (5, .int (nI (5 + re))), (0, .ref (ad w 44)), (1, .ref (ad w 51)), (2, .int (nI 0)), (3, .int (nI 0)), (4, .int (nI 1))]) [0, 1, 2, 3, 4, 5, 6, 7] rfl ?_
                refine g_sgE (sg' := (us sg 51 (emb 0 (q2 true wh g 0 (5 + re) (k + 1)) (sg 51)))) (congrArg (us sg 51) (emb_eq (fun m _ => q2_no (hq.2 hno).1 m))) ?_
                exact ih (k + 1) D (by omega) (by omega) (by omega) (hq.2 hno).2
              ·
                refine g_iload C 0 rfl dX5_turnsBy_141 ?_
                refine g_iload C 2 rfl dX5_turnsBy_143 ?_
                refine g_icmpN_gt C k (5 + re) (by omega) (by omega) (tgt := 222) (by decide) dX5_turnsBy_145 (fun h145 => ?_) (fun h145 => ?_)
                ·
                  have hno : ¬ (D.testBit k = true ∧ k ≤ (5 + re)) := fun q => absurd q.2 (by omega)
                  refine g_iinc C (n := 1) (v := (nI (k + 1))) (L' := [(7, .int (nI (k + 1))), (6, .int (nI D)), (5, .int (nI (5 + re))), (0, .ref (ad w 44)), (1, .ref (ad w 51)), (2, .int (nI 0)), (3, .int (nI 0)), (4, .int (nI 1))]) 0 rfl (nI_add k 1) (by decide) rfl dX5_turnsBy_222 ?_
                  refine g_goto C (tgt := 123) (by decide) dX5_turnsBy_225 ?_
                  refine g_sub (L' := [(7, .int (nI (k + 1))), (6, .int (nI D)), (5, .int (nI (5 + re))), (0, .ref (ad w 44)), (1, .ref (ad w 51)), (2, .int (nI 0)), (3, .int (nI 0)), (4, .int (nI 1))]) [0, 1, 2, 3, 4, 5, 6, 7] rfl ?_
                  refine g_sgE (sg' := (us sg 51 (emb 0 (q2 true wh g 0 (5 + re) (k + 1)) (sg 51)))) (congrArg (us sg 51) (emb_eq (fun m _ => q2_no (hq.2 hno).1 m))) ?_
                  exact ih (k + 1) D (by omega) (by omega) (by omega) (hq.2 hno).2
                ·
                  have hyes : D.testBit k = true ∧ k ≤ (5 + re) := ⟨tb_iff.mp h138, by omega⟩
                  refine g_aload_n C 4 rfl rfl dX5_turnsBy_148 ?_
                  refine g_iload_n C 5 rfl rfl dX5_turnsBy_149 ?_
                  refine g_iload C 0 rfl dX5_turnsBy_150 ?_
                  refine g_iadd C dX5_turnsBy_152 ?_
                  refine g_top (y := (nI k)) (by rw [nI_add, Nat.zero_add]) ?_
                  refine g_ialdN C k e_51 (by omega) (by decide) dX5_turnsBy_153 ?_
                  refine g_top (y := ((emb 0 (q2 true wh g 0 (5 + re) k) (sg 51)) k)) rfl ?_
                  refine g_top (y := nI (q2 true wh g 0 (5 + re) k k)) (by have h9 := emb_in (b := 0) (v := q2 true wh g 0 (5 + re) k) (old := sg 51) (k := k) (by omega); rw [Nat.zero_add] at h9; exact h9) ?_
                  refine g_iload C 7 rfl dX5_turnsBy_154 ?_
                  refine g_iadd C dX5_turnsBy_156 ?_
                  refine g_top (y := (nI ((q2 true wh g 0 (5 + re) k k) + 1))) (nI_add (q2 true wh g 0 (5 + re) k k) 1) ?_
                  refine g_istore C (L' := [(8, .int (nI ((q2 true wh g 0 (5 + re) k k) + 1))), (7, .int (nI k)), (6, .int (nI D)), (5, .int (nI (5 + re))), (0, .ref (ad w 44)), (1, .ref (ad w 51)), (2, .int (nI 0)), (3, .int (nI 0)), (4, .int (nI 1))]) (by decide) rfl dX5_turnsBy_157 ?_
                  refine g_iload C 0 rfl dX5_turnsBy_159 ?_
                  refine g_bipush C (v := (nI 9)) (by decide) dX5_turnsBy_161 ?_
                  refine g_icmpN_gt C ((q2 true wh g 0 (5 + re) k k) + 1) 9 (by omega) (by omega) (tgt := 171) (by decide) dX5_turnsBy_163 (fun h163 => ?_) (fun h163 => ?_)
                  ·
                    refine g_iconst C (v := (nI 1)) (by decide) dX5_turnsBy_171 ?_
                    refine g_goto C (tgt := 176) (by decide) dX5_turnsBy_172 ?_
                    refine g_istore C (L' := [(9, .int (nI 1)), (8, .int (nI ((q2 true wh g 0 (5 + re) k k) + 1))), (7, .int (nI k)), (6, .int (nI D)), (5, .int (nI (5 + re))), (0, .ref (ad w 44)), (1, .ref (ad w 51)), (2, .int (nI 0)), (3, .int (nI 0)), (4, .int (nI 1))]) (by decide) rfl dX5_turnsBy_176 ?_
                    refine g_aload_n C 6 rfl rfl dX5_turnsBy_178 ?_
                    refine g_iload_n C 7 rfl rfl dX5_turnsBy_179 ?_
                    refine g_iload C 2 rfl dX5_turnsBy_180 ?_
                    refine g_iadd C dX5_turnsBy_182 ?_
                    refine g_top (y := (nI k)) (by rw [nI_add, Nat.zero_add]) ?_
                    refine g_iload C 0 rfl dX5_turnsBy_183 ?_
                    refine g_if_eq C (tgt := 199) (by decide) dX5_turnsBy_185 (fun h185 => absurd h185 (by decide)) (fun h185 => ?_)
                    refine g_iload C 1 rfl dX5_turnsBy_188 ?_
                    refine g_bipush C (v := (nI 10)) (by decide) dX5_turnsBy_190 ?_
                    refine g_iload C 9 rfl dX5_turnsBy_192 ?_
                    refine g_imul C dX5_turnsBy_194 ?_
                    refine g_top (y := (nI 10)) (pk_mul 10 1) ?_
                    refine g_isub C dX5_turnsBy_195 ?_
                    refine g_top (y := nI (stp true (q2 true wh g 0 (5 + re) k k) 1)) (by rw [show stp true (q2 true wh g 0 (5 + re) k k) 1 = q2 true wh g 0 (5 + re) k k + 1 - 10 from by simp only [stp, if_true]; exact if_pos h163]; exact pk_sub (by omega)) ?_
                    refine g_goto C (tgt := 201) (by decide) dX5_turnsBy_196 ?_
                    refine g_iastN C k e_51 (by omega) (by decide) dX5_turnsBy_201 ?_
                    refine g_sgE (sg' := (us sg 51 (upd (emb 0 (q2 true wh g 0 (5 + re) k) (sg 51)) k (nI (stp true (q2 true wh g 0 (5 + re) k k) 1))))) us_us ?_
                    refine g_iload C 3 rfl dX5_turnsBy_202 ?_
                    refine g_iload C 0 rfl dX5_turnsBy_204 ?_
                    refine g_if_eq C (tgt := 218) (by decide) dX5_turnsBy_206 (fun h206 => absurd h206 (by decide)) (fun h206 => ?_)
                    refine g_iconst C (v := (nI 1)) (by decide) dX5_turnsBy_209 ?_
                    refine g_iload C 2 rfl dX5_turnsBy_210 ?_
                    refine g_iconst C (v := (nI 1)) (by decide) dX5_turnsBy_212 ?_
                    refine g_iadd C dX5_turnsBy_213 ?_
                    refine g_top (y := (nI (k + 1))) (nI_add k 1) ?_
                    refine g_ishl C dX5_turnsBy_214 ?_
                    refine g_top (y := nI (2 ^ (k + 1))) (sh_nI (by omega)) ?_
                    refine g_goto C (tgt := 219) (by decide) dX5_turnsBy_215 ?_
                    refine g_ior C dX5_turnsBy_219 ?_
                    refine g_top (y := nI (D ||| 2 ^ (k + 1))) (or_nI _ _) ?_
                    have hcr : cry true (q2 true wh g 0 (5 + re) k k) 1 = 1 := (by simp only [cry, if_true]; exact if_pos h163)
                    refine g_istore C (L' := [(6, .int (nI (D ||| 2 ^ (k + 1)))), (9, .int (nI 1)), (8, .int (nI ((q2 true wh g 0 (5 + re) k k) + 1))), (7, .int (nI k)), (5, .int (nI (5 + re))), (0, .ref (ad w 44)), (1, .ref (ad w 51)), (2, .int (nI 0)), (3, .int (nI 0)), (4, .int (nI 1))]) (by decide) rfl dX5_turnsBy_220 ?_
                    refine g_iinc C (n := 1) (v := (nI (k + 1))) (L' := [(7, .int (nI (k + 1))), (6, .int (nI (D ||| 2 ^ (k + 1)))), (9, .int (nI 1)), (8, .int (nI ((q2 true wh g 0 (5 + re) k k) + 1))), (5, .int (nI (5 + re))), (0, .ref (ad w 44)), (1, .ref (ad w 51)), (2, .int (nI 0)), (3, .int (nI 0)), (4, .int (nI 1))]) 3 rfl (nI_add k 1) (by decide) rfl dX5_turnsBy_222 ?_
                    refine g_goto C (tgt := 123) (by decide) dX5_turnsBy_225 ?_
                    refine g_sub (L' := [(7, .int (nI (k + 1))), (6, .int (nI (D ||| 2 ^ (k + 1)))), (5, .int (nI (5 + re))), (0, .ref (ad w 44)), (1, .ref (ad w 51)), (2, .int (nI 0)), (3, .int (nI 0)), (4, .int (nI 1))]) [0, 1, 4, 5, 6, 7, 8, 9] rfl ?_
                    refine g_sgE (sg' := (us sg 51 (emb 0 (q2 true wh g 0 (5 + re) (k + 1)) (sg 51)))) (congrArg (us sg 51) (emb_upd0 (by omega) (by rw [q2_k]; exact (hq.1 hyes).1) (fun m _ hm => q2_n hm))) ?_
                    exact ih (k + 1) (D ||| 2 ^ (k + 1)) (by omega) (by omega) (by omega) ((hq.1 hyes).2.1 hcr)
                  ·
                    refine g_iload C 0 rfl dX5_turnsBy_166 ?_
                    refine g_if_ge C (tgt := 175) (by decide) dX5_turnsBy_168 (fun h168 => ?_) (fun h168 => absurd (nI_pos' (by omega)) h168)
                    refine g_iconst C (v := (nI 0)) (by decide) dX5_turnsBy_175 ?_
                    refine g_istore C (L' := [(9, .int (nI 0)), (8, .int (nI ((q2 true wh g 0 (5 + re) k k) + 1))), (7, .int (nI k)), (6, .int (nI D)), (5, .int (nI (5 + re))), (0, .ref (ad w 44)), (1, .ref (ad w 51)), (2, .int (nI 0)), (3, .int (nI 0)), (4, .int (nI 1))]) (by decide) rfl dX5_turnsBy_176 ?_
                    refine g_aload_n C 6 rfl rfl dX5_turnsBy_178 ?_
                    refine g_iload_n C 7 rfl rfl dX5_turnsBy_179 ?_
                    refine g_iload C 2 rfl dX5_turnsBy_180 ?_
                    refine g_iadd C dX5_turnsBy_182 ?_
                    refine g_top (y := (nI k)) (by rw [nI_add, Nat.zero_add]) ?_
                    refine g_iload C 0 rfl dX5_turnsBy_183 ?_
                    refine g_if_eq C (tgt := 199) (by decide) dX5_turnsBy_185 (fun h185 => ?_) (fun h185 => absurd h185 (by decide))
                    refine g_iload C 1 rfl dX5_turnsBy_199 ?_
                    refine g_top (y := nI (stp true (q2 true wh g 0 (5 + re) k k) 1)) (congrArg nI (by simp only [stp, if_true]; exact (if_neg (by omega)).symm)) ?_
                    refine g_iastN C k e_51 (by omega) (by decide) dX5_turnsBy_201 ?_
                    refine g_sgE (sg' := (us sg 51 (upd (emb 0 (q2 true wh g 0 (5 + re) k) (sg 51)) k (nI (stp true (q2 true wh g 0 (5 + re) k k) 1))))) us_us ?_
                    refine g_iload C 3 rfl dX5_turnsBy_202 ?_
                    refine g_iload C 0 rfl dX5_turnsBy_204 ?_
                    refine g_if_eq C (tgt := 218) (by decide) dX5_turnsBy_206 (fun h206 => ?_) (fun h206 => absurd h206 (by decide))
                    refine g_iconst C (v := (nI 0)) (by decide) dX5_turnsBy_218 ?_
                    refine g_ior C dX5_turnsBy_219 ?_
                    refine g_top (y := nI (D ||| 0)) (or_nI _ _) ?_
                    have hcr : ¬ cry true (q2 true wh g 0 (5 + re) k k) 1 = 1 := (by simp only [cry, if_true]; rw [if_neg (by omega)]; decide)
                    refine g_istore C (L' := [(6, .int (nI (D ||| 0))), (9, .int (nI 0)), (8, .int (nI ((q2 true wh g 0 (5 + re) k k) + 1))), (7, .int (nI k)), (5, .int (nI (5 + re))), (0, .ref (ad w 44)), (1, .ref (ad w 51)), (2, .int (nI 0)), (3, .int (nI 0)), (4, .int (nI 1))]) (by decide) rfl dX5_turnsBy_220 ?_
                    refine g_iinc C (n := 1) (v := (nI (k + 1))) (L' := [(7, .int (nI (k + 1))), (6, .int (nI (D ||| 0))), (9, .int (nI 0)), (8, .int (nI ((q2 true wh g 0 (5 + re) k k) + 1))), (5, .int (nI (5 + re))), (0, .ref (ad w 44)), (1, .ref (ad w 51)), (2, .int (nI 0)), (3, .int (nI 0)), (4, .int (nI 1))]) 3 rfl (nI_add k 1) (by decide) rfl dX5_turnsBy_222 ?_
                    refine g_goto C (tgt := 123) (by decide) dX5_turnsBy_225 ?_
                    refine g_sub (L' := [(7, .int (nI (k + 1))), (6, .int (nI (D ||| 0))), (5, .int (nI (5 + re))), (0, .ref (ad w 44)), (1, .ref (ad w 51)), (2, .int (nI 0)), (3, .int (nI 0)), (4, .int (nI 1))]) [0, 1, 4, 5, 6, 7, 8, 9] rfl ?_
                    refine g_sgE (sg' := (us sg 51 (emb 0 (q2 true wh g 0 (5 + re) (k + 1)) (sg 51)))) (congrArg (us sg 51) (emb_upd0 (by omega) (by rw [q2_k]; exact (hq.1 hyes).1) (fun m _ hm => q2_n hm))) ?_
                    exact ih (k + 1) (D ||| 0) (by omega) (by omega) (by omega) (by rw [Nat.or_zero]; exact (hq.1 hyes).2.2 hcr)
        refine g_sgE (sg' := (us sg 51 (emb 0 (q2 true wh g 0 (5 + re) 0) (sg 51)))) (congrArg (us sg 51) (emb_eq (fun m _ => q2_beg.symm))) ?_
        refine g_sub (L' := [(7, .int (nI 0)), (6, .int (nI (D1 true wh g 0 6))), (5, .int (nI (5 + re))), (0, .ref (ad w 44)), (1, .ref (ad w 51)), (2, .int (nI 0)), (3, .int (nI 0)), (4, .int (nI 1))]) [0, 1, 2, 3, 4, 5, 6, 7] rfl ?_
        exact lpb 13 0 (D1 true wh g 0 6) (by omega) (by omega) (Nat.le_refl _) (D2_0 (by omega))
      ·
        refine g_aload_n C 4 rfl rfl dX5_turnsBy_26 ?_
        refine g_iload_n C 5 rfl rfl dX5_turnsBy_27 ?_
        refine g_iload C 0 rfl dX5_turnsBy_28 ?_
        refine g_iadd C dX5_turnsBy_30 ?_
        refine g_top (y := (nI i)) (by rw [nI_add, Nat.zero_add]) ?_
        refine g_iload_n C 6 rfl rfl dX5_turnsBy_31 ?_
        refine g_iadd C dX5_turnsBy_32 ?_
        refine g_top (y := (nI (i + 0))) (nI_add i 0) ?_
        refine g_top (y := (nI (0 + (i + 0)))) (congrArg nI (by omega)) ?_
        refine g_ialdN C (0 + (i + 0)) e_51 (by omega) (by decide) dX5_turnsBy_33 ?_
        refine g_top (y := ((emb 0 (p1 true wh g 0 i) (sg 51)) (0 + (i + 0)))) rfl ?_
        refine g_top (y := nI (wh (i + 0))) (by rw [emb_in (by omega), p1_at]) ?_
        have hb1 := hw9 (i + 0) (by omega)
        have hb2 := hg9 i (by omega)
        refine g_iload C 7 rfl dX5_turnsBy_34 ?_
        refine g_aload_n C 3 rfl rfl dX5_turnsBy_36 ?_
        refine g_getR C (j := 7) cls5 e_44 rfl (by decide) fl_X5_25 dX5_turnsBy_37 ?_
        refine g_iload C 0 rfl dX5_turnsBy_40 ?_
        refine g_ialdN C i e_50 (by omega) (by decide) dX5_turnsBy_42 ?_
        refine g_top (y := (sg 50 i)) rfl ?_
        refine g_top (y := nI (g i)) (hgi i (by omega)) ?_
        refine g_imul C dX5_turnsBy_43 ?_
        refine g_top (y := (nI (g i))) (by rw [pk_mul, Nat.one_mul]) ?_
        refine g_iadd C dX5_turnsBy_44 ?_
        refine g_top (y := (nI ((wh (i + 0)) + (g i)))) (nI_add (wh (i + 0)) (g i)) ?_
        refine g_istore C (L' := [(8, .int (nI ((wh (i + 0)) + (g i)))), (7, .int (nI i)), (6, .int (nI (D1 true wh g 0 i))), (5, .int (nI (5 + re))), (0, .ref (ad w 44)), (1, .ref (ad w 51)), (2, .int (nI 0)), (3, .int (nI 0)), (4, .int (nI 1))]) (by decide) rfl dX5_turnsBy_45 ?_
        refine g_iload C 0 rfl dX5_turnsBy_47 ?_
        refine g_bipush C (v := (nI 9)) (by decide) dX5_turnsBy_49 ?_
        refine g_icmpN_gt C ((wh (i + 0)) + (g i)) 9 (by omega) (by omega) (tgt := 59) (by decide) dX5_turnsBy_51 (fun h51 => ?_) (fun h51 => ?_)
        ·
          refine g_iconst C (v := (nI 1)) (by decide) dX5_turnsBy_59 ?_
          refine g_goto C (tgt := 64) (by decide) dX5_turnsBy_60 ?_
          refine g_istore C (L' := [(9, .int (nI 1)), (8, .int (nI ((wh (i + 0)) + (g i)))), (7, .int (nI i)), (6, .int (nI (D1 true wh g 0 i))), (5, .int (nI (5 + re))), (0, .ref (ad w 44)), (1, .ref (ad w 51)), (2, .int (nI 0)), (3, .int (nI 0)), (4, .int (nI 1))]) (by decide) rfl dX5_turnsBy_64 ?_
          refine g_aload_n C 6 rfl rfl dX5_turnsBy_66 ?_
          refine g_iload_n C 7 rfl rfl dX5_turnsBy_67 ?_
          refine g_iload C 2 rfl dX5_turnsBy_68 ?_
          refine g_iadd C dX5_turnsBy_70 ?_
          refine g_top (y := (nI i)) (by rw [nI_add, Nat.zero_add]) ?_
          refine g_iload_n C 8 rfl rfl dX5_turnsBy_71 ?_
          refine g_iadd C dX5_turnsBy_72 ?_
          refine g_top (y := (nI (i + 0))) (nI_add i 0) ?_
          refine g_top (y := (nI (0 + (i + 0)))) (congrArg nI (by omega)) ?_
          refine g_iload C 0 rfl dX5_turnsBy_73 ?_
          refine g_if_eq C (tgt := 89) (by decide) dX5_turnsBy_75 (fun h75 => absurd h75 (by decide)) (fun h75 => ?_)
          refine g_iload C 1 rfl dX5_turnsBy_78 ?_
          refine g_bipush C (v := (nI 10)) (by decide) dX5_turnsBy_80 ?_
          refine g_iload C 9 rfl dX5_turnsBy_82 ?_
          refine g_imul C dX5_turnsBy_84 ?_
          refine g_top (y := (nI 10)) (pk_mul 10 1) ?_
          refine g_isub C dX5_turnsBy_85 ?_
          refine g_top (y := nI (stp true (wh (i + 0)) (g i))) (by rw [show stp true (wh (i + 0)) (g i) = wh (i + 0) + g i - 10 from by simp only [stp, if_true]; exact if_pos h51]; exact pk_sub (by omega)) ?_
          refine g_goto C (tgt := 91) (by decide) dX5_turnsBy_86 ?_
          refine g_iastN C (0 + (i + 0)) e_51 (by omega) (by decide) dX5_turnsBy_91 ?_
          refine g_sgE (sg' := (us sg 51 (upd (emb 0 (p1 true wh g 0 i) (sg 51)) (0 + (i + 0)) (nI (stp true (wh (i + 0)) (g i)))))) us_us ?_
          refine g_iload C 3 rfl dX5_turnsBy_92 ?_
          refine g_iload C 0 rfl dX5_turnsBy_94 ?_
          refine g_if_eq C (tgt := 110) (by decide) dX5_turnsBy_96 (fun h96 => absurd h96 (by decide)) (fun h96 => ?_)
          refine g_iconst C (v := (nI 1)) (by decide) dX5_turnsBy_99 ?_
          refine g_iload C 2 rfl dX5_turnsBy_100 ?_
          refine g_iload_n C 8 rfl rfl dX5_turnsBy_102 ?_
          refine g_iadd C dX5_turnsBy_103 ?_
          refine g_top (y := (nI (i + 0))) (nI_add i 0) ?_
          refine g_iconst C (v := (nI 1)) (by decide) dX5_turnsBy_104 ?_
          refine g_iadd C dX5_turnsBy_105 ?_
          refine g_top (y := (nI ((i + 0) + 1))) (nI_add (i + 0) 1) ?_
          refine g_ishl C dX5_turnsBy_106 ?_
          refine g_top (y := nI (2 ^ (i + 0 + 1))) (sh_nI (by omega)) ?_
          refine g_goto C (tgt := 111) (by decide) dX5_turnsBy_107 ?_
          refine g_ior C dX5_turnsBy_111 ?_
          refine g_top (y := nI (D1 true wh g 0 i ||| 2 ^ (i + 0 + 1))) (or_nI _ _) ?_
          refine g_istore C (L' := [(6, .int (nI (D1 true wh g 0 i ||| 2 ^ (i + 0 + 1)))), (9, .int (nI 1)), (8, .int (nI ((wh (i + 0)) + (g i)))), (7, .int (nI i)), (5, .int (nI (5 + re))), (0, .ref (ad w 44)), (1, .ref (ad w 51)), (2, .int (nI 0)), (3, .int (nI 0)), (4, .int (nI 1))]) (by decide) rfl dX5_turnsBy_112 ?_
          refine g_iinc C (n := 1) (v := (nI (i + 1))) (L' := [(7, .int (nI (i + 1))), (6, .int (nI (D1 true wh g 0 i ||| 2 ^ (i + 0 + 1)))), (9, .int (nI 1)), (8, .int (nI ((wh (i + 0)) + (g i)))), (5, .int (nI (5 + re))), (0, .ref (ad w 44)), (1, .ref (ad w 51)), (2, .int (nI 0)), (3, .int (nI 0)), (4, .int (nI 1))]) 3 rfl (nI_add i 1) (by decide) rfl dX5_turnsBy_114 ?_
          refine g_goto C (tgt := 19) (by decide) dX5_turnsBy_117 ?_
          have hcr : cry true (wh (i + 0)) (g i) = 1 := (by simp only [cry, if_true]; exact if_pos h51)
          have hD : D1 true wh g 0 (i + 1) = D1 true wh g 0 i ||| 2 ^ (i + 0 + 1) := by
            show (if cry true (wh (i + 0)) (g i) = 1 then _ else _) = _
            rw [hcr, if_pos rfl]
          refine g_sub (L' := [(7, .int (nI (i + 1))), (6, .int (nI (D1 true wh g 0 i ||| 2 ^ (i + 0 + 1)))), (5, .int (nI (5 + re))), (0, .ref (ad w 44)), (1, .ref (ad w 51)), (2, .int (nI 0)), (3, .int (nI 0)), (4, .int (nI 1))]) [0, 1, 4, 5, 6, 7, 8, 9] rfl ?_
          refine g_eq (L' := [(7, .int (nI (i + 1))), (6, .int (nI (D1 true wh g 0 (i + 1)))), (5, .int (nI (5 + re))), (0, .ref (ad w 44)), (1, .ref (ad w 51)), (2, .int (nI 0)), (3, .int (nI 0)), (4, .int (nI 1))]) rfl rfl (by rw [hD]) rfl ?_
          refine g_sgE (sg' := (us sg 51 (emb 0 (p1 true wh g 0 (i + 1)) (sg 51)))) (congrArg (us sg 51) (emb_upd (by omega) p1_s (fun m _ hm => p1_n hm))) ?_
          exact ih (i + 1)  (by omega) (by omega) trivial
        ·
          refine g_iload C 0 rfl dX5_turnsBy_54 ?_
          refine g_if_ge C (tgt := 63) (by decide) dX5_turnsBy_56 (fun h56 => ?_) (fun h56 => absurd (nI_pos' (by have := hw9 (i + 0) (by omega); have := hg9 i (by omega); omega)) h56)
          refine g_iconst C (v := (nI 0)) (by decide) dX5_turnsBy_63 ?_
          refine g_istore C (L' := [(9, .int (nI 0)), (8, .int (nI ((wh (i + 0)) + (g i)))), (7, .int (nI i)), (6, .int (nI (D1 true wh g 0 i))), (5, .int (nI (5 + re))), (0, .ref (ad w 44)), (1, .ref (ad w 51)), (2, .int (nI 0)), (3, .int (nI 0)), (4, .int (nI 1))]) (by decide) rfl dX5_turnsBy_64 ?_
          refine g_aload_n C 6 rfl rfl dX5_turnsBy_66 ?_
          refine g_iload_n C 7 rfl rfl dX5_turnsBy_67 ?_
          refine g_iload C 2 rfl dX5_turnsBy_68 ?_
          refine g_iadd C dX5_turnsBy_70 ?_
          refine g_top (y := (nI i)) (by rw [nI_add, Nat.zero_add]) ?_
          refine g_iload_n C 8 rfl rfl dX5_turnsBy_71 ?_
          refine g_iadd C dX5_turnsBy_72 ?_
          refine g_top (y := (nI (i + 0))) (nI_add i 0) ?_
          refine g_top (y := (nI (0 + (i + 0)))) (congrArg nI (by omega)) ?_
          refine g_iload C 0 rfl dX5_turnsBy_73 ?_
          refine g_if_eq C (tgt := 89) (by decide) dX5_turnsBy_75 (fun h75 => ?_) (fun h75 => absurd h75 (by decide))
          refine g_iload C 1 rfl dX5_turnsBy_89 ?_
          refine g_top (y := nI (stp true (wh (i + 0)) (g i))) (congrArg nI (by simp only [stp, if_true]; exact (if_neg (by omega)).symm)) ?_
          refine g_iastN C (0 + (i + 0)) e_51 (by omega) (by decide) dX5_turnsBy_91 ?_
          refine g_sgE (sg' := (us sg 51 (upd (emb 0 (p1 true wh g 0 i) (sg 51)) (0 + (i + 0)) (nI (stp true (wh (i + 0)) (g i)))))) us_us ?_
          refine g_iload C 3 rfl dX5_turnsBy_92 ?_
          refine g_iload C 0 rfl dX5_turnsBy_94 ?_
          refine g_if_eq C (tgt := 110) (by decide) dX5_turnsBy_96 (fun h96 => ?_) (fun h96 => absurd h96 (by decide))
          refine g_iconst C (v := (nI 0)) (by decide) dX5_turnsBy_110 ?_
          refine g_ior C dX5_turnsBy_111 ?_
          refine g_top (y := nI (D1 true wh g 0 i ||| 0)) (or_nI _ _) ?_
          refine g_istore C (L' := [(6, .int (nI (D1 true wh g 0 i ||| 0))), (9, .int (nI 0)), (8, .int (nI ((wh (i + 0)) + (g i)))), (7, .int (nI i)), (5, .int (nI (5 + re))), (0, .ref (ad w 44)), (1, .ref (ad w 51)), (2, .int (nI 0)), (3, .int (nI 0)), (4, .int (nI 1))]) (by decide) rfl dX5_turnsBy_112 ?_
          refine g_iinc C (n := 1) (v := (nI (i + 1))) (L' := [(7, .int (nI (i + 1))), (6, .int (nI (D1 true wh g 0 i ||| 0))), (9, .int (nI 0)), (8, .int (nI ((wh (i + 0)) + (g i)))), (5, .int (nI (5 + re))), (0, .ref (ad w 44)), (1, .ref (ad w 51)), (2, .int (nI 0)), (3, .int (nI 0)), (4, .int (nI 1))]) 3 rfl (nI_add i 1) (by decide) rfl dX5_turnsBy_114 ?_
          refine g_goto C (tgt := 19) (by decide) dX5_turnsBy_117 ?_
          have hcr : cry true (wh (i + 0)) (g i) = 0 := (by simp only [cry, if_true]; exact if_neg (by omega))
          have hD : D1 true wh g 0 (i + 1) = D1 true wh g 0 i ||| 0 := by
            show (if cry true (wh (i + 0)) (g i) = 1 then _ else _) = _
            rw [hcr, if_neg (by decide), Nat.or_zero]
          refine g_sub (L' := [(7, .int (nI (i + 1))), (6, .int (nI (D1 true wh g 0 i ||| 0))), (5, .int (nI (5 + re))), (0, .ref (ad w 44)), (1, .ref (ad w 51)), (2, .int (nI 0)), (3, .int (nI 0)), (4, .int (nI 1))]) [0, 1, 4, 5, 6, 7, 8, 9] rfl ?_
          refine g_eq (L' := [(7, .int (nI (i + 1))), (6, .int (nI (D1 true wh g 0 (i + 1)))), (5, .int (nI (5 + re))), (0, .ref (ad w 44)), (1, .ref (ad w 51)), (2, .int (nI 0)), (3, .int (nI 0)), (4, .int (nI 1))]) rfl rfl (by rw [hD]) rfl ?_
          refine g_sgE (sg' := (us sg 51 (emb 0 (p1 true wh g 0 (i + 1)) (sg 51)))) (congrArg (us sg 51) (emb_upd (by omega) p1_s (fun m _ hm => p1_n hm))) ?_
          exact ih (i + 1)  (by omega) (by omega) trivial
  refine g_sgE (sg' := (us sg 51 (emb 0 (p1 true wh g 0 0) (sg 51)))) (by rw [hemb0, us_id]) ?_
  refine g_sub (L' := [(7, .int (nI 0)), (6, .int (nI (D1 true wh g 0 0))), (5, .int (nI (5 + re))), (0, .ref (ad w 44)), (1, .ref (ad w 51)), (2, .int (nI 0)), (3, .int (nI 0)), (4, .int (nI 1))]) [0, 1, 2, 3, 4, 5, 6, 7] rfl ?_
  exact lpa (6 + 1) 0  (by omega) (by omega) trivial
end
section
/-! THE ROW of 35 ints that is the works (digits 0, worn 6, wheels 12, counters 24, shift 31, reach 32, bell 33, turned 34), and what is done to it -/
def dN (f : Nat → Int32) (d : Nat) : Nat := (f d).toNatClampNeg
def oN (f : Nat → Int32) (d : Nat) : Nat := (f (6 + d)).toNatClampNeg
def wN (f : Nat → Int32) (k : Nat) : Nat := (f (12 + k)).toNatClampNeg
def sN (f : Nat → Int32) : Nat := (f 31).toNatClampNeg
def reN (f : Nat → Int32) : Nat := (f 32).toNatClampNeg
/-- a row as it can be -/
def ROk (f : Nat → Int32) : Prop := (∀ d, d < 6 → f d = nI (dN f d) ∧ dN f d ≤ 9) ∧ (∀ d, d < 6 → f (6 + d) = nI (oN f d) ∧ oN f d < 1024 ∧ oN f d % 2 = 0) ∧ (∀ k, k < 12 → f (12 + k) = nI (wN f k) ∧ wN f k ≤ 9) ∧ (f 31 = nI (sN f) ∧ sN f ≤ 6) ∧ (f 32 = nI (reN f) ∧ reN f ≤ 12)
theorem cl_nI {n : Nat} (h : n < 2 ^ 31) : (nI n).toNatClampNeg = n := nI_clamp h
/-- a row is as it can be, if numbers are known -/
theorem ROk.mk {f : Nat → Int32} {d o wh : Nat → Nat} {s re : Nat} (h1 : ∀ k, k < 6 → f k = nI (d k) ∧ d k ≤ 9) (h2 : ∀ k, k < 6 → f (6 + k) = nI (o k) ∧ o k < 1024 ∧ o k % 2 = 0) (h3 : ∀ k, k < 12 → f (12 + k) = nI (wh k) ∧ wh k ≤ 9) (h4 : f 31 = nI s ∧ s ≤ 6) (h5 : f 32 = nI re ∧ re ≤ 12) : ROk f := by
  refine ⟨fun k hk => ?_, fun k hk => ?_, fun k hk => ?_, ?_, ?_⟩
  · have h := h1 k hk
    have e : dN f k = d k := by unfold dN; rw [h.1]; exact nI_clamp (by omega)
    rw [e]; exact h
  · have h := h2 k hk
    have e : oN f k = o k := by unfold oN; rw [h.1]; exact nI_clamp (by omega)
    rw [e]; exact h
  · have h := h3 k hk
    have e : wN f k = wh k := by unfold wN; rw [h.1]; exact nI_clamp (by omega)
    rw [e]; exact h
  · have e : sN f = s := by unfold sN; rw [h4.1]; exact nI_clamp (by omega)
    rw [e]; exact h4
  · have e : reN f = re := by unfold reN; rw [h5.1]; exact nI_clamp (by omega)
    rw [e]; exact h5
/-- equal rows -/
def RE (f f' : Nat → Int32) : Prop := ∀ j, j < 35 → f j = f' j
theorem RE.ok {f f' : Nat → Int32} (h : RE f f') (hf : ROk f) : ROk f' := by
  obtain ⟨h1, h2, h3, h4, h5⟩ := hf
  exact ROk.mk (fun k hk => ⟨(h k (by omega)).symm.trans (h1 k hk).1, (h1 k hk).2⟩) (fun k hk => ⟨(h (6 + k) (by omega)).symm.trans (h2 k hk).1, (h2 k hk).2⟩) (fun k hk => ⟨(h (12 + k) (by omega)).symm.trans (h3 k hk).1, (h3 k hk).2⟩) ⟨(h 31 (by omega)).symm.trans h4.1, h4.2⟩ ⟨(h 32 (by omega)).symm.trans h5.1, h5.2⟩
/-- what drums give -/
def gN (f : Nat → Int32) (d : Nat) : Nat := (whX (f (6 + d)) (dN f d + 1)).toNatClampNeg
theorem whX_nat (wn : Int32) : ∀ n, ∃ c, c ≤ n ∧ whX wn (n + 1) = nI c
  | 0 => ⟨0, Nat.le_refl _, rfl⟩
  | n + 1 => by
    obtain ⟨c, hc, e⟩ := whX_nat wn n
    rw [whX_s (by omega), e]
    obtain ⟨j, hj, ej⟩ := pk_andE (wn >>> (nI (n + 1) &&& 31)) (m := nI 1) 1 (by decide)
    rw [ej]
    have hj2 : j = 0 ∨ j = 1 := by have h9 : j < 2 := hj; omega
    rcases hj2 with rfl | rfl
    · exact ⟨c + 1, by omega, by rw [show nI 0 ^^^ nI 1 = nI 1 from by decide, nI_add]⟩
    · exact ⟨c, by omega, by rw [show nI 1 ^^^ nI 1 = nI 0 from by decide, nI_add, Nat.add_zero]⟩
theorem gN_ok {f : Nat → Int32} (hf : ROk f) {d : Nat} (hd : d < 6) : whX (f (6 + d)) (dN f d + 1) = nI (gN f d) ∧ gN f d ≤ 9 := by
  obtain ⟨c, hc, e⟩ := whX_nat (f (6 + d)) (dN f d)
  have h9 := (hf.1 d hd).2
  have e2 : gN f d = c := by unfold gN; rw [e]; exact nI_clamp (by omega)
  rw [e2]
  exact ⟨e, by omega⟩
def ctI (c x : Int32) : Int32 := (c + x + nI 10) - (c + x + nI 10) / nI 10 * nI 10
def rgP (up : Bool) (g : Nat → Nat) (f : Nat → Int32) : Prop := blP up (wN f) g (sN f) (sN f + 5 + reN f)
/-- one TURN on a row -/
def tR (up : Bool) (cts : Int32) (g : Nat → Nat) (f : Nat → Int32) : Nat → Int32 :=
  upd (upd (upd (emb 12 (tw up (wN f) g (sN f) (sN f + 5 + reN f)) f) 33 (f 33 + bI (blP up (wN f) g (sN f) (sN f + 5 + reN f)))) (24 + sN f) (ctI (f (24 + sN f)) cts)) 34 (f 34 + nI 1)
theorem tR_lo {up : Bool} {cts : Int32} {g : Nat → Nat} {f : Nat → Int32} {j : Nat} (hj : j < 12) : tR up cts g f j = f j := by
  unfold tR
  rw [upd_ne (by omega), upd_ne (by omega), upd_ne (by omega), emb_out (by omega)]
theorem tR_wh {up : Bool} {cts : Int32} {g : Nat → Nat} {f : Nat → Int32} {k : Nat} (hk : k < 12) : tR up cts g f (12 + k) = nI (tw up (wN f) g (sN f) (sN f + 5 + reN f) k) := by
  unfold tR
  rw [upd_ne (by omega), upd_ne (by omega), upd_ne (by omega), emb_in hk]
theorem tR_31 {up : Bool} {cts : Int32} {g : Nat → Nat} {f : Nat → Int32} (hs : sN f ≤ 6) : tR up cts g f 31 = f 31 := by
  unfold tR
  rw [upd_ne (by omega), upd_ne (by omega), upd_ne (by omega), emb_out (by omega)]
theorem tR_32 {up : Bool} {cts : Int32} {g : Nat → Nat} {f : Nat → Int32} (hs : sN f ≤ 6) : tR up cts g f 32 = f 32 := by
  unfold tR
  rw [upd_ne (by omega), upd_ne (by omega), upd_ne (by omega), emb_out (by omega)]
theorem tR_33 {up : Bool} {cts : Int32} {g : Nat → Nat} {f : Nat → Int32} (hs : sN f ≤ 6) : tR up cts g f 33 = f 33 + bI (blP up (wN f) g (sN f) (sN f + 5 + reN f)) := by
  unfold tR
  rw [upd_ne (by omega), upd_ne (by omega), upd_same]
theorem tR_34 {up : Bool} {cts : Int32} {g : Nat → Nat} {f : Nat → Int32} : tR up cts g f 34 = f 34 + nI 1 := by
  unfold tR
  rw [upd_same]
theorem tR_ok {up : Bool} {cts : Int32} {g : Nat → Nat} {f : Nat → Int32} (hf : ROk f) (hg : ∀ i, i < 6 → g i ≤ 9) : ROk (tR up cts g f) := by
  have hs := hf.2.2.2.1.2
  refine ROk.mk (d := dN f) (o := oN f) (wh := tw up (wN f) g (sN f) (sN f + 5 + reN f)) (s := sN f) (re := reN f) (fun k hk => ?_) (fun k hk => ?_) (fun k hk => ?_) ?_ ?_
  · rw [tR_lo (by omega)]; exact hf.1 k hk
  · rw [tR_lo (by omega)]; exact hf.2.1 k hk
  · rw [tR_wh hk]; exact ⟨rfl, tw_le (fun k hk => (hf.2.2.1 k hk).2) hg hk⟩
  · rw [tR_31 hs]; exact hf.2.2.2.1
  · rw [tR_32 hs]; exact hf.2.2.2.2
theorem tR_gN {up : Bool} {cts : Int32} {g : Nat → Nat} {f : Nat → Int32} {d : Nat} (hd : d < 6) : gN (tR up cts g f) d = gN f d := by
  unfold gN dN
  rw [tR_lo (by omega), tR_lo (by omega)]
/-- n TURNS -/
def itR (up : Bool) (cts : Int32) (g : Nat → Nat) : Nat → (Nat → Int32) → Nat → Int32
  | 0, f => f
  | n + 1, f => tR up cts g (itR up cts g n f)
def rgs (up : Bool) (cts : Int32) (g : Nat → Nat) (f : Nat → Int32) : Nat → Int32
  | 0 => nI 0
  | n + 1 => rgs up cts g f n + bI (blP up (wN (itR up cts g n f)) g (sN (itR up cts g n f)) (sN (itR up cts g n f) + 5 + reN (itR up cts g n f)))
theorem itR_ok {up : Bool} {cts : Int32} {g : Nat → Nat} {f : Nat → Int32} (hf : ROk f) (hg : ∀ i, i < 6 → g i ≤ 9) : ∀ n, ROk (itR up cts g n f)
  | 0 => hf
  | n + 1 => tR_ok (itR_ok hf hg n) hg
theorem itR_lo {up : Bool} {cts : Int32} {g : Nat → Nat} {f : Nat → Int32} {j : Nat} (hj : j < 12) : ∀ n, itR up cts g n f j = f j
  | 0 => rfl
  | n + 1 => by show tR up cts g _ j = _; rw [tR_lo hj]; exact itR_lo hj n
theorem itR_34 {up : Bool} {cts : Int32} {g : Nat → Nat} {f : Nat → Int32} : ∀ n, itR up cts g n f 34 = f 34 + nI n
  | 0 => by show f 34 = f 34 + nI 0; rw [nI_0, Int32.add_zero]
  | n + 1 => by show tR up cts g _ 34 = _; rw [tR_34, itR_34 n, Int32.add_assoc, nI_add]
theorem itR_33 {up : Bool} {cts : Int32} {g : Nat → Nat} {f : Nat → Int32} (hf : ROk f) (hg : ∀ i, i < 6 → g i ≤ 9) : ∀ n, itR up cts g n f 33 = f 33 + rgs up cts g f n
  | 0 => by show f 33 = f 33 + nI 0; rw [nI_0, Int32.add_zero]
  | n + 1 => by
    show tR up cts g _ 33 = f 33 + (rgs up cts g f n + _)
    rw [tR_33 (itR_ok hf hg n).2.2.2.1.2, itR_33 hf hg n, Int32.add_assoc]
/-- WHEELS and COUNTERS 0 -/
def clR (f : Nat → Int32) : Nat → Int32 := fw 24 (fun _ => nI 0) (fw 12 (fun _ => nI 0) f 12) 7
theorem clR_lo {f : Nat → Int32} {j : Nat} (hj : j < 12) : clR f j = f j := by unfold clR; rw [fw_out (by omega), fw_out (by omega)]
theorem clR_hi {f : Nat → Int32} {j : Nat} (hj : 31 ≤ j) : clR f j = f j := by unfold clR; rw [fw_out (by omega), fw_out (by omega)]
theorem clR_ok {f : Nat → Int32} (hf : ROk f) : ROk (clR f) := by
  refine ROk.mk (d := dN f) (o := oN f) (wh := fun _ => 0) (s := sN f) (re := reN f) (fun k hk => ?_) (fun k hk => ?_) (fun k hk => ?_) ?_ ?_
  · rw [clR_lo (by omega)]; exact hf.1 k hk
  · rw [clR_lo (by omega)]; exact hf.2.1 k hk
  · unfold clR; rw [fw_out (by omega), fw_in (by omega)]; exact ⟨rfl, by omega⟩
  · rw [clR_hi (by omega)]; exact hf.2.2.2.1
  · rw [clR_hi (by omega)]; exact hf.2.2.2.2
theorem sh_ok {f : Nat → Int32} {k : Nat} (hf : ROk f) (hk : k ≤ 6) : ROk (upd f 31 (nI k)) := by
  refine ROk.mk (d := dN f) (o := oN f) (wh := wN f) (s := k) (re := reN f) (fun k hk => ?_) (fun k hk => ?_) (fun k hk => ?_) ?_ ?_
  · rw [upd_ne (by omega)]; exact hf.1 k hk
  · rw [upd_ne (by omega)]; exact hf.2.1 k hk
  · rw [upd_ne (by omega)]; exact hf.2.2.1 k hk
  · rw [upd_same]; exact ⟨rfl, hk⟩
  · rw [upd_ne (by omega)]; exact hf.2.2.2.2
/-! the plan of a product: m is what is left with what is due -/
def ovP (how m : Nat) : Prop := how = 1 ∧ 5 < m % 10
abbrev ovB (how m : Nat) : Bool := decide (how = 1 ∧ 5 < m % 10)
def aP (how m : Nat) : Nat := if how = 1 ∧ 5 < m % 10 then 10 - m % 10 else m % 10
def pI (how m : Nat) : Int32 := if how = 1 ∧ 5 < m % 10 then nI (m % 10) - nI 10 else nI (m % 10)
def nxP (how m : Nat) : Nat := m / 10 + (if how = 1 ∧ 5 < m % 10 then 1 else 0)
def mkP (how n : Nat) : Nat → Nat
  | 0 => n
  | k + 1 => nxP how (mkP how n k)
def smP (how n : Nat) : Nat → Nat
  | 0 => 0
  | k + 1 => smP how n k + aP how (mkP how n k)
theorem mkP_le {how n : Nat} (hn : n ≤ 999999) : ∀ k, mkP how n k ≤ 999999
  | 0 => hn
  | k + 1 => by
    have h := mkP_le (how := how) hn k
    show nxP how (mkP how n k) ≤ 999999
    unfold nxP
    split <;> omega
theorem aP_le {how m : Nat} : aP how m ≤ 9 := by unfold aP; split <;> omega
theorem smP_le {how n : Nat} : ∀ k, smP how n k ≤ 9 * k
  | 0 => Nat.le_refl _
  | k + 1 => by
    have h := smP_le (how := how) (n := n) k
    have h2 := aP_le (how := how) (m := mkP how n k)
    show smP how n k + aP how (mkP how n k) ≤ _
    omega
theorem ng_nI : ∀ m, m < 11 → 5 < m → ((nI m - nI 10 < 0 ↔ m < 10) ∧ (-(nI m - nI 10)) = nI (10 - m) ∧ (-1) * (nI m - nI 10) = nI (10 - m)) := by decide +kernel
/-- the first k places of a product turned -/
def muR (how n : Nat) (g : Nat → Nat) : Nat → (Nat → Int32) → Nat → Int32
  | 0, f => f
  | k + 1, f => itR (!ovB how (mkP how n k)) (if how = 1 ∧ 5 < mkP how n k % 10 then (-1) else nI 1) g (aP how (mkP how n k)) (upd (muR how n g k f) 31 (nI k))
theorem muR_ok {how n : Nat} {g : Nat → Nat} {f : Nat → Int32} (hf : ROk f) (hg : ∀ i, i < 6 → g i ≤ 9) : ∀ k, k ≤ 7 → ROk (muR how n g k f)
  | 0, _ => hf
  | k + 1, h => itR_ok (sh_ok (muR_ok hf hg k (by omega)) (by omega)) hg _
theorem muR_34 {how n : Nat} {g : Nat → Nat} {f : Nat → Int32} : ∀ k, muR how n g k f 34 = f 34 + nI (smP how n k)
  | 0 => by show f 34 = f 34 + nI 0; rw [nI_0, Int32.add_zero]
  | k + 1 => by
    show itR _ _ g _ _ 34 = f 34 + nI (smP how n k + aP how (mkP how n k))
    rw [itR_34, upd_ne (by omega), muR_34 k, Int32.add_assoc, nI_add]
theorem muR_lo {how n : Nat} {g : Nat → Nat} {f : Nat → Int32} {j : Nat} (hj : j < 12) : ∀ k, muR how n g k f j = f j
  | 0 => rfl
  | k + 1 => by show itR _ _ g _ _ j = f j; rw [itR_lo hj, upd_ne (by omega)]; exact muR_lo hj k
end
section
set_option maxRecDepth 100000 in
set_option maxHeartbeats 4000000 in
theorem c_X5_turnsOnce_up (w : GW) (tu : Int64) (sg : Sg) (cts : Int32) (g : Nat → Nat) (hok : ROk (sg 45)) (hgi : ∀ i, i < 6 → sg 50 i = nI (g i)) (hg9 : ∀ i, i < 6 → g i ≤ 9) : Kt w yX5_turnsOnce cX5_turnsOnce 5 (some .boolean) 1 [.ref (ad w 44), .int (nI 1), .int cts] sg tu (some (.int (bI (blP true (wN (sg 45)) g (sN (sg 45)) (sN (sg 45) + 5 + reN (sg 45)))))) (us sg 45 (tR true cts g (sg 45))) tu := by
  refine Kt.of2 RX5 rfl [(0, .ref (ad w 44)), (1, .int (nI 1)), (2, .int cts)] (by decide) rfl (Nat.le_of_ble_eq_true rfl) (fun z C E => ?_)
  refine g_aload_n C 0 rfl rfl dX5_turnsOnce_0 ?_
  refine g_getR C (j := 0) cls5 e_44 rfl (by decide) fl_X5_7 dX5_turnsOnce_1 ?_
  refine g_bipush C (v := (nI 31)) (by decide) dX5_turnsOnce_4 ?_
  refine g_ialdN C 31 e_45 (by decide) (by decide) dX5_turnsOnce_6 ?_
  refine g_top (y := (nI (sN (sg 45)))) hok.2.2.2.1.1 ?_
  have hs6 := hok.2.2.2.1.2
  refine g_istore_n C (L' := [(3, .int (nI (sN (sg 45)))), (0, .ref (ad w 44)), (1, .int (nI 1)), (2, .int cts)]) rfl (by decide) rfl dX5_turnsOnce_7 ?_
  refine g_aload_n C 1 rfl rfl dX5_turnsOnce_8 ?_
  refine g_aload_n C 1 rfl rfl dX5_turnsOnce_9 ?_
  refine g_getR C (j := 0) cls5 e_44 rfl (by decide) fl_X5_7 dX5_turnsOnce_10 ?_
  refine g_bipush C (v := (nI 12)) (by decide) dX5_turnsOnce_13 ?_
  refine g_iload_n C 0 rfl rfl dX5_turnsOnce_15 ?_
  refine g_iload_n C 2 rfl rfl dX5_turnsOnce_16 ?_
  refine g_callV1 [] C (c_X5_turnsBy_now_up w tu sg (sN (sg 45)) (wN (sg 45)) g (reN (sg 45)) hs6 hok.2.2.2.2.1 hok.2.2.2.2.2 (fun k hk => (hok.2.2.1 k hk).1) (fun k hk => (hok.2.2.1 k hk).2) hgi hg9) mt_X5_turnsBy e_44 rfl ml_X5_61 im_X5_turnsBy se_X5_turnsBy (by decide) rfl (Nat.le_of_ble_eq_true rfl) dX5_turnsOnce_17 ?_
  refine g_eq (sg' := (us sg 45 (emb 12 (tw true (wN (sg 45)) g (sN (sg 45)) ((sN (sg 45)) + 5 + (reN (sg 45)))) (sg 45)))) (L' := [(3, .int (nI (sN (sg 45)))), (0, .ref (ad w 44)), (1, .int (nI 1)), (2, .int cts)]) (S' := [.int (bI (blP true (wN (sg 45)) g (sN (sg 45)) ((sN (sg 45)) + 5 + (reN (sg 45)))))]) rfl rfl rfl rfl ?_
  refine g_istore C (L' := [(4, .int (bI (blP true (wN (sg 45)) g (sN (sg 45)) ((sN (sg 45)) + 5 + (reN (sg 45)))))), (3, .int (nI (sN (sg 45)))), (0, .ref (ad w 44)), (1, .int (nI 1)), (2, .int cts)]) (by decide) rfl dX5_turnsOnce_20 ?_
  refine g_aload_n C 2 rfl rfl dX5_turnsOnce_22 ?_
  refine g_getR C (j := 0) cls5 e_44 rfl (by decide) fl_X5_7 dX5_turnsOnce_23 ?_
  refine g_bipush C (v := (nI 33)) (by decide) dX5_turnsOnce_26 ?_
  refine g_dup2 C rfl rfl dX5_turnsOnce_28 ?_
  refine g_ialdN C 33 e_45 (by decide) (by decide) dX5_turnsOnce_29 ?_
  refine g_top (y := ((emb 12 (tw true (wN (sg 45)) g (sN (sg 45)) ((sN (sg 45)) + 5 + (reN (sg 45)))) (sg 45)) 33)) rfl ?_
  refine g_top (y := (sg 45 33)) (emb_out (by decide)) ?_
  refine g_iload C 0 rfl dX5_turnsOnce_30 ?_
  refine g_bif_eq C (tgt := 39) (by decide) dX5_turnsOnce_32 (fun h32 => ?_) (fun h32 => ?_)
  ·
    refine g_iconst C (v := (nI 0)) (by decide) dX5_turnsOnce_39 ?_
    refine g_iadd C dX5_turnsOnce_40 ?_
    refine g_top (y := sg 45 33 + bI (blP true (wN (sg 45)) g (sN (sg 45)) (sN (sg 45) + 5 + reN (sg 45)))) (by rw [bI_f h32]; rfl) ?_
    refine g_iastN C 33 e_45 (by decide) (by decide) dX5_turnsOnce_41 ?_
    refine g_sgE (sg' := (us sg 45 (upd (emb 12 (tw true (wN (sg 45)) g (sN (sg 45)) ((sN (sg 45)) + 5 + (reN (sg 45)))) (sg 45)) 33 (sg 45 33 + bI (blP true (wN (sg 45)) g (sN (sg 45)) (sN (sg 45) + 5 + reN (sg 45))))))) us_us ?_
    refine g_aload_n C 2 rfl rfl dX5_turnsOnce_42 ?_
    refine g_getR C (j := 0) cls5 e_44 rfl (by decide) fl_X5_7 dX5_turnsOnce_43 ?_
    refine g_bipush C (v := (nI 24)) (by decide) dX5_turnsOnce_46 ?_
    refine g_iload_n C 1 rfl rfl dX5_turnsOnce_48 ?_
    refine g_iadd C dX5_turnsOnce_49 ?_
    refine g_top (y := (nI (24 + (sN (sg 45))))) (nI_add 24 (sN (sg 45))) ?_
    refine g_aload_n C 2 rfl rfl dX5_turnsOnce_50 ?_
    refine g_getR C (j := 0) cls5 e_44 rfl (by decide) fl_X5_7 dX5_turnsOnce_51 ?_
    refine g_bipush C (v := (nI 24)) (by decide) dX5_turnsOnce_54 ?_
    refine g_iload_n C 1 rfl rfl dX5_turnsOnce_56 ?_
    refine g_iadd C dX5_turnsOnce_57 ?_
    refine g_top (y := (nI (24 + (sN (sg 45))))) (nI_add 24 (sN (sg 45))) ?_
    refine g_ialdN C (24 + (sN (sg 45))) e_45 (by omega) (by decide) dX5_turnsOnce_58 ?_
    refine g_top (y := ((upd (emb 12 (tw true (wN (sg 45)) g (sN (sg 45)) ((sN (sg 45)) + 5 + (reN (sg 45)))) (sg 45)) 33 (sg 45 33 + bI (blP true (wN (sg 45)) g (sN (sg 45)) (sN (sg 45) + 5 + reN (sg 45))))) (24 + (sN (sg 45))))) rfl ?_
    refine g_top (y := (sg 45 (24 + sN (sg 45)))) (by rw [upd_ne (by omega), emb_out (by omega)]) ?_
    refine g_iload_n C 4 rfl rfl dX5_turnsOnce_59 ?_
    refine g_iadd C dX5_turnsOnce_60 ?_
    refine g_bipush C (v := (nI 10)) (by decide) dX5_turnsOnce_61 ?_
    refine g_iadd C dX5_turnsOnce_63 ?_
    refine g_bipush C (v := (nI 10)) (by decide) dX5_turnsOnce_64 ?_
    refine g_irem C (by decide) dX5_turnsOnce_66 ?_
    refine g_top (y := ctI (sg 45 (24 + sN (sg 45))) cts) rfl ?_
    refine g_iastN C (24 + (sN (sg 45))) e_45 (by omega) (by decide) dX5_turnsOnce_67 ?_
    refine g_sgE (sg' := (us sg 45 (upd (upd (emb 12 (tw true (wN (sg 45)) g (sN (sg 45)) ((sN (sg 45)) + 5 + (reN (sg 45)))) (sg 45)) 33 (sg 45 33 + bI (blP true (wN (sg 45)) g (sN (sg 45)) (sN (sg 45) + 5 + reN (sg 45))))) (24 + (sN (sg 45))) (ctI (sg 45 (24 + sN (sg 45))) cts)))) us_us ?_
    refine g_aload_n C 2 rfl rfl dX5_turnsOnce_68 ?_
    refine g_getR C (j := 0) cls5 e_44 rfl (by decide) fl_X5_7 dX5_turnsOnce_69 ?_
    refine g_bipush C (v := (nI 34)) (by decide) dX5_turnsOnce_72 ?_
    refine g_dup2 C rfl rfl dX5_turnsOnce_74 ?_
    refine g_ialdN C 34 e_45 (by decide) (by decide) dX5_turnsOnce_75 ?_
    refine g_top (y := ((upd (upd (emb 12 (tw true (wN (sg 45)) g (sN (sg 45)) ((sN (sg 45)) + 5 + (reN (sg 45)))) (sg 45)) 33 (sg 45 33 + bI (blP true (wN (sg 45)) g (sN (sg 45)) (sN (sg 45) + 5 + reN (sg 45))))) (24 + (sN (sg 45))) (ctI (sg 45 (24 + sN (sg 45))) cts)) 34)) rfl ?_
    refine g_top (y := (sg 45 34)) (by rw [upd_ne (by omega), upd_ne (by decide), emb_out (by decide)]) ?_
    refine g_iconst C (v := (nI 1)) (by decide) dX5_turnsOnce_76 ?_
    refine g_iadd C dX5_turnsOnce_77 ?_
    refine g_iastN C 34 e_45 (by decide) (by decide) dX5_turnsOnce_78 ?_
    refine g_sgE (sg' := (us sg 45 (upd (upd (upd (emb 12 (tw true (wN (sg 45)) g (sN (sg 45)) ((sN (sg 45)) + 5 + (reN (sg 45)))) (sg 45)) 33 (sg 45 33 + bI (blP true (wN (sg 45)) g (sN (sg 45)) (sN (sg 45) + 5 + reN (sg 45))))) (24 + (sN (sg 45))) (ctI (sg 45 (24 + sN (sg 45))) cts)) 34 ((sg 45 34) + (nI 1))))) us_us ?_
    refine g_iload C 0 rfl dX5_turnsOnce_79 ?_
    exact g_zret C E dX5_turnsOnce_81 bI_nar rfl Sq.rf rfl
  ·
    refine g_iconst C (v := (nI 1)) (by decide) dX5_turnsOnce_35 ?_
    refine g_goto C (tgt := 40) (by decide) dX5_turnsOnce_36 ?_
    refine g_iadd C dX5_turnsOnce_40 ?_
    refine g_top (y := sg 45 33 + bI (blP true (wN (sg 45)) g (sN (sg 45)) (sN (sg 45) + 5 + reN (sg 45)))) (by rw [bI_t h32]; rfl) ?_
    refine g_iastN C 33 e_45 (by decide) (by decide) dX5_turnsOnce_41 ?_
    refine g_sgE (sg' := (us sg 45 (upd (emb 12 (tw true (wN (sg 45)) g (sN (sg 45)) ((sN (sg 45)) + 5 + (reN (sg 45)))) (sg 45)) 33 (sg 45 33 + bI (blP true (wN (sg 45)) g (sN (sg 45)) (sN (sg 45) + 5 + reN (sg 45))))))) us_us ?_
    refine g_aload_n C 2 rfl rfl dX5_turnsOnce_42 ?_
    refine g_getR C (j := 0) cls5 e_44 rfl (by decide) fl_X5_7 dX5_turnsOnce_43 ?_
    refine g_bipush C (v := (nI 24)) (by decide) dX5_turnsOnce_46 ?_
    refine g_iload_n C 1 rfl rfl dX5_turnsOnce_48 ?_
    refine g_iadd C dX5_turnsOnce_49 ?_
    refine g_top (y := (nI (24 + (sN (sg 45))))) (nI_add 24 (sN (sg 45))) ?_
    refine g_aload_n C 2 rfl rfl dX5_turnsOnce_50 ?_
    refine g_getR C (j := 0) cls5 e_44 rfl (by decide) fl_X5_7 dX5_turnsOnce_51 ?_
    refine g_bipush C (v := (nI 24)) (by decide) dX5_turnsOnce_54 ?_
    refine g_iload_n C 1 rfl rfl dX5_turnsOnce_56 ?_
    refine g_iadd C dX5_turnsOnce_57 ?_
    refine g_top (y := (nI (24 + (sN (sg 45))))) (nI_add 24 (sN (sg 45))) ?_
    refine g_ialdN C (24 + (sN (sg 45))) e_45 (by omega) (by decide) dX5_turnsOnce_58 ?_
    refine g_top (y := ((upd (emb 12 (tw true (wN (sg 45)) g (sN (sg 45)) ((sN (sg 45)) + 5 + (reN (sg 45)))) (sg 45)) 33 (sg 45 33 + bI (blP true (wN (sg 45)) g (sN (sg 45)) (sN (sg 45) + 5 + reN (sg 45))))) (24 + (sN (sg 45))))) rfl ?_
    refine g_top (y := (sg 45 (24 + sN (sg 45)))) (by rw [upd_ne (by omega), emb_out (by omega)]) ?_
    refine g_iload_n C 4 rfl rfl dX5_turnsOnce_59 ?_
    refine g_iadd C dX5_turnsOnce_60 ?_
    refine g_bipush C (v := (nI 10)) (by decide) dX5_turnsOnce_61 ?_
    refine g_iadd C dX5_turnsOnce_63 ?_
    refine g_bipush C (v := (nI 10)) (by decide) dX5_turnsOnce_64 ?_
    refine g_irem C (by decide) dX5_turnsOnce_66 ?_
    refine g_top (y := ctI (sg 45 (24 + sN (sg 45))) cts) rfl ?_
    refine g_iastN C (24 + (sN (sg 45))) e_45 (by omega) (by decide) dX5_turnsOnce_67 ?_
    refine g_sgE (sg' := (us sg 45 (upd (upd (emb 12 (tw true (wN (sg 45)) g (sN (sg 45)) ((sN (sg 45)) + 5 + (reN (sg 45)))) (sg 45)) 33 (sg 45 33 + bI (blP true (wN (sg 45)) g (sN (sg 45)) (sN (sg 45) + 5 + reN (sg 45))))) (24 + (sN (sg 45))) (ctI (sg 45 (24 + sN (sg 45))) cts)))) us_us ?_
    refine g_aload_n C 2 rfl rfl dX5_turnsOnce_68 ?_
    refine g_getR C (j := 0) cls5 e_44 rfl (by decide) fl_X5_7 dX5_turnsOnce_69 ?_
    refine g_bipush C (v := (nI 34)) (by decide) dX5_turnsOnce_72 ?_
    refine g_dup2 C rfl rfl dX5_turnsOnce_74 ?_
    refine g_ialdN C 34 e_45 (by decide) (by decide) dX5_turnsOnce_75 ?_
    refine g_top (y := ((upd (upd (emb 12 (tw true (wN (sg 45)) g (sN (sg 45)) ((sN (sg 45)) + 5 + (reN (sg 45)))) (sg 45)) 33 (sg 45 33 + bI (blP true (wN (sg 45)) g (sN (sg 45)) (sN (sg 45) + 5 + reN (sg 45))))) (24 + (sN (sg 45))) (ctI (sg 45 (24 + sN (sg 45))) cts)) 34)) rfl ?_
    refine g_top (y := (sg 45 34)) (by rw [upd_ne (by omega), upd_ne (by decide), emb_out (by decide)]) ?_
    refine g_iconst C (v := (nI 1)) (by decide) dX5_turnsOnce_76 ?_
    refine g_iadd C dX5_turnsOnce_77 ?_
    refine g_iastN C 34 e_45 (by decide) (by decide) dX5_turnsOnce_78 ?_
    refine g_sgE (sg' := (us sg 45 (upd (upd (upd (emb 12 (tw true (wN (sg 45)) g (sN (sg 45)) ((sN (sg 45)) + 5 + (reN (sg 45)))) (sg 45)) 33 (sg 45 33 + bI (blP true (wN (sg 45)) g (sN (sg 45)) (sN (sg 45) + 5 + reN (sg 45))))) (24 + (sN (sg 45))) (ctI (sg 45 (24 + sN (sg 45))) cts)) 34 ((sg 45 34) + (nI 1))))) us_us ?_
    refine g_iload C 0 rfl dX5_turnsOnce_79 ?_
    exact g_zret C E dX5_turnsOnce_81 bI_nar rfl Sq.rf rfl
set_option maxRecDepth 100000 in
set_option maxHeartbeats 4000000 in
theorem c_X5_turnsOnce_dn (w : GW) (tu : Int64) (sg : Sg) (cts : Int32) (g : Nat → Nat) (hok : ROk (sg 45)) (hgi : ∀ i, i < 6 → sg 50 i = nI (g i)) (hg9 : ∀ i, i < 6 → g i ≤ 9) : Kt w yX5_turnsOnce cX5_turnsOnce 5 (some .boolean) 1 [.ref (ad w 44), .int (-1), .int cts] sg tu (some (.int (bI (blP false (wN (sg 45)) g (sN (sg 45)) (sN (sg 45) + 5 + reN (sg 45)))))) (us sg 45 (tR false cts g (sg 45))) tu := by
  refine Kt.of2 RX5 rfl [(0, .ref (ad w 44)), (1, .int (-1)), (2, .int cts)] (by decide) rfl (Nat.le_of_ble_eq_true rfl) (fun z C E => ?_)
  refine g_aload_n C 0 rfl rfl dX5_turnsOnce_0 ?_
  refine g_getR C (j := 0) cls5 e_44 rfl (by decide) fl_X5_7 dX5_turnsOnce_1 ?_
  refine g_bipush C (v := (nI 31)) (by decide) dX5_turnsOnce_4 ?_
  refine g_ialdN C 31 e_45 (by decide) (by decide) dX5_turnsOnce_6 ?_
  refine g_top (y := (nI (sN (sg 45)))) hok.2.2.2.1.1 ?_
  have hs6 := hok.2.2.2.1.2
  refine g_istore_n C (L' := [(3, .int (nI (sN (sg 45)))), (0, .ref (ad w 44)), (1, .int (-1)), (2, .int cts)]) rfl (by decide) rfl dX5_turnsOnce_7 ?_
  refine g_aload_n C 1 rfl rfl dX5_turnsOnce_8 ?_
  refine g_aload_n C 1 rfl rfl dX5_turnsOnce_9 ?_
  refine g_getR C (j := 0) cls5 e_44 rfl (by decide) fl_X5_7 dX5_turnsOnce_10 ?_
  refine g_bipush C (v := (nI 12)) (by decide) dX5_turnsOnce_13 ?_
  refine g_iload_n C 0 rfl rfl dX5_turnsOnce_15 ?_
  refine g_iload_n C 2 rfl rfl dX5_turnsOnce_16 ?_
  refine g_callV1 [] C (c_X5_turnsBy_now_dn w tu sg (sN (sg 45)) (wN (sg 45)) g (reN (sg 45)) hs6 hok.2.2.2.2.1 hok.2.2.2.2.2 (fun k hk => (hok.2.2.1 k hk).1) (fun k hk => (hok.2.2.1 k hk).2) hgi hg9) mt_X5_turnsBy e_44 rfl ml_X5_61 im_X5_turnsBy se_X5_turnsBy (by decide) rfl (Nat.le_of_ble_eq_true rfl) dX5_turnsOnce_17 ?_
  refine g_eq (sg' := (us sg 45 (emb 12 (tw false (wN (sg 45)) g (sN (sg 45)) ((sN (sg 45)) + 5 + (reN (sg 45)))) (sg 45)))) (L' := [(3, .int (nI (sN (sg 45)))), (0, .ref (ad w 44)), (1, .int (-1)), (2, .int cts)]) (S' := [.int (bI (blP false (wN (sg 45)) g (sN (sg 45)) ((sN (sg 45)) + 5 + (reN (sg 45)))))]) rfl rfl rfl rfl ?_
  refine g_istore C (L' := [(4, .int (bI (blP false (wN (sg 45)) g (sN (sg 45)) ((sN (sg 45)) + 5 + (reN (sg 45)))))), (3, .int (nI (sN (sg 45)))), (0, .ref (ad w 44)), (1, .int (-1)), (2, .int cts)]) (by decide) rfl dX5_turnsOnce_20 ?_
  refine g_aload_n C 2 rfl rfl dX5_turnsOnce_22 ?_
  refine g_getR C (j := 0) cls5 e_44 rfl (by decide) fl_X5_7 dX5_turnsOnce_23 ?_
  refine g_bipush C (v := (nI 33)) (by decide) dX5_turnsOnce_26 ?_
  refine g_dup2 C rfl rfl dX5_turnsOnce_28 ?_
  refine g_ialdN C 33 e_45 (by decide) (by decide) dX5_turnsOnce_29 ?_
  refine g_top (y := ((emb 12 (tw false (wN (sg 45)) g (sN (sg 45)) ((sN (sg 45)) + 5 + (reN (sg 45)))) (sg 45)) 33)) rfl ?_
  refine g_top (y := (sg 45 33)) (emb_out (by decide)) ?_
  refine g_iload C 0 rfl dX5_turnsOnce_30 ?_
  refine g_bif_eq C (tgt := 39) (by decide) dX5_turnsOnce_32 (fun h32 => ?_) (fun h32 => ?_)
  ·
    refine g_iconst C (v := (nI 0)) (by decide) dX5_turnsOnce_39 ?_
    refine g_iadd C dX5_turnsOnce_40 ?_
    refine g_top (y := sg 45 33 + bI (blP false (wN (sg 45)) g (sN (sg 45)) (sN (sg 45) + 5 + reN (sg 45)))) (by rw [bI_f h32]; rfl) ?_
    refine g_iastN C 33 e_45 (by decide) (by decide) dX5_turnsOnce_41 ?_
    refine g_sgE (sg' := (us sg 45 (upd (emb 12 (tw false (wN (sg 45)) g (sN (sg 45)) ((sN (sg 45)) + 5 + (reN (sg 45)))) (sg 45)) 33 (sg 45 33 + bI (blP false (wN (sg 45)) g (sN (sg 45)) (sN (sg 45) + 5 + reN (sg 45))))))) us_us ?_
    refine g_aload_n C 2 rfl rfl dX5_turnsOnce_42 ?_
    refine g_getR C (j := 0) cls5 e_44 rfl (by decide) fl_X5_7 dX5_turnsOnce_43 ?_
    refine g_bipush C (v := (nI 24)) (by decide) dX5_turnsOnce_46 ?_
    refine g_iload_n C 1 rfl rfl dX5_turnsOnce_48 ?_
    refine g_iadd C dX5_turnsOnce_49 ?_
    refine g_top (y := (nI (24 + (sN (sg 45))))) (nI_add 24 (sN (sg 45))) ?_
    refine g_aload_n C 2 rfl rfl dX5_turnsOnce_50 ?_
    refine g_getR C (j := 0) cls5 e_44 rfl (by decide) fl_X5_7 dX5_turnsOnce_51 ?_
    refine g_bipush C (v := (nI 24)) (by decide) dX5_turnsOnce_54 ?_
    refine g_iload_n C 1 rfl rfl dX5_turnsOnce_56 ?_
    refine g_iadd C dX5_turnsOnce_57 ?_
    refine g_top (y := (nI (24 + (sN (sg 45))))) (nI_add 24 (sN (sg 45))) ?_
    refine g_ialdN C (24 + (sN (sg 45))) e_45 (by omega) (by decide) dX5_turnsOnce_58 ?_
    refine g_top (y := ((upd (emb 12 (tw false (wN (sg 45)) g (sN (sg 45)) ((sN (sg 45)) + 5 + (reN (sg 45)))) (sg 45)) 33 (sg 45 33 + bI (blP false (wN (sg 45)) g (sN (sg 45)) (sN (sg 45) + 5 + reN (sg 45))))) (24 + (sN (sg 45))))) rfl ?_
    refine g_top (y := (sg 45 (24 + sN (sg 45)))) (by rw [upd_ne (by omega), emb_out (by omega)]) ?_
    refine g_iload_n C 4 rfl rfl dX5_turnsOnce_59 ?_
    refine g_iadd C dX5_turnsOnce_60 ?_
    refine g_bipush C (v := (nI 10)) (by decide) dX5_turnsOnce_61 ?_
    refine g_iadd C dX5_turnsOnce_63 ?_
    refine g_bipush C (v := (nI 10)) (by decide) dX5_turnsOnce_64 ?_
    refine g_irem C (by decide) dX5_turnsOnce_66 ?_
    refine g_top (y := ctI (sg 45 (24 + sN (sg 45))) cts) rfl ?_
    refine g_iastN C (24 + (sN (sg 45))) e_45 (by omega) (by decide) dX5_turnsOnce_67 ?_
    refine g_sgE (sg' := (us sg 45 (upd (upd (emb 12 (tw false (wN (sg 45)) g (sN (sg 45)) ((sN (sg 45)) + 5 + (reN (sg 45)))) (sg 45)) 33 (sg 45 33 + bI (blP false (wN (sg 45)) g (sN (sg 45)) (sN (sg 45) + 5 + reN (sg 45))))) (24 + (sN (sg 45))) (ctI (sg 45 (24 + sN (sg 45))) cts)))) us_us ?_
    refine g_aload_n C 2 rfl rfl dX5_turnsOnce_68 ?_
    refine g_getR C (j := 0) cls5 e_44 rfl (by decide) fl_X5_7 dX5_turnsOnce_69 ?_
    refine g_bipush C (v := (nI 34)) (by decide) dX5_turnsOnce_72 ?_
    refine g_dup2 C rfl rfl dX5_turnsOnce_74 ?_
    refine g_ialdN C 34 e_45 (by decide) (by decide) dX5_turnsOnce_75 ?_
    refine g_top (y := ((upd (upd (emb 12 (tw false (wN (sg 45)) g (sN (sg 45)) ((sN (sg 45)) + 5 + (reN (sg 45)))) (sg 45)) 33 (sg 45 33 + bI (blP false (wN (sg 45)) g (sN (sg 45)) (sN (sg 45) + 5 + reN (sg 45))))) (24 + (sN (sg 45))) (ctI (sg 45 (24 + sN (sg 45))) cts)) 34)) rfl ?_
    refine g_top (y := (sg 45 34)) (by rw [upd_ne (by omega), upd_ne (by decide), emb_out (by decide)]) ?_
    refine g_iconst C (v := (nI 1)) (by decide) dX5_turnsOnce_76 ?_
    refine g_iadd C dX5_turnsOnce_77 ?_
    refine g_iastN C 34 e_45 (by decide) (by decide) dX5_turnsOnce_78 ?_
    refine g_sgE (sg' := (us sg 45 (upd (upd (upd (emb 12 (tw false (wN (sg 45)) g (sN (sg 45)) ((sN (sg 45)) + 5 + (reN (sg 45)))) (sg 45)) 33 (sg 45 33 + bI (blP false (wN (sg 45)) g (sN (sg 45)) (sN (sg 45) + 5 + reN (sg 45))))) (24 + (sN (sg 45))) (ctI (sg 45 (24 + sN (sg 45))) cts)) 34 ((sg 45 34) + (nI 1))))) us_us ?_
    refine g_iload C 0 rfl dX5_turnsOnce_79 ?_
    exact g_zret C E dX5_turnsOnce_81 bI_nar rfl Sq.rf rfl
  ·
    refine g_iconst C (v := (nI 1)) (by decide) dX5_turnsOnce_35 ?_
    refine g_goto C (tgt := 40) (by decide) dX5_turnsOnce_36 ?_
    refine g_iadd C dX5_turnsOnce_40 ?_
    refine g_top (y := sg 45 33 + bI (blP false (wN (sg 45)) g (sN (sg 45)) (sN (sg 45) + 5 + reN (sg 45)))) (by rw [bI_t h32]; rfl) ?_
    refine g_iastN C 33 e_45 (by decide) (by decide) dX5_turnsOnce_41 ?_
    refine g_sgE (sg' := (us sg 45 (upd (emb 12 (tw false (wN (sg 45)) g (sN (sg 45)) ((sN (sg 45)) + 5 + (reN (sg 45)))) (sg 45)) 33 (sg 45 33 + bI (blP false (wN (sg 45)) g (sN (sg 45)) (sN (sg 45) + 5 + reN (sg 45))))))) us_us ?_
    refine g_aload_n C 2 rfl rfl dX5_turnsOnce_42 ?_
    refine g_getR C (j := 0) cls5 e_44 rfl (by decide) fl_X5_7 dX5_turnsOnce_43 ?_
    refine g_bipush C (v := (nI 24)) (by decide) dX5_turnsOnce_46 ?_
    refine g_iload_n C 1 rfl rfl dX5_turnsOnce_48 ?_
    refine g_iadd C dX5_turnsOnce_49 ?_
    refine g_top (y := (nI (24 + (sN (sg 45))))) (nI_add 24 (sN (sg 45))) ?_
    refine g_aload_n C 2 rfl rfl dX5_turnsOnce_50 ?_
    refine g_getR C (j := 0) cls5 e_44 rfl (by decide) fl_X5_7 dX5_turnsOnce_51 ?_
    refine g_bipush C (v := (nI 24)) (by decide) dX5_turnsOnce_54 ?_
    refine g_iload_n C 1 rfl rfl dX5_turnsOnce_56 ?_
    refine g_iadd C dX5_turnsOnce_57 ?_
    refine g_top (y := (nI (24 + (sN (sg 45))))) (nI_add 24 (sN (sg 45))) ?_
    refine g_ialdN C (24 + (sN (sg 45))) e_45 (by omega) (by decide) dX5_turnsOnce_58 ?_
    refine g_top (y := ((upd (emb 12 (tw false (wN (sg 45)) g (sN (sg 45)) ((sN (sg 45)) + 5 + (reN (sg 45)))) (sg 45)) 33 (sg 45 33 + bI (blP false (wN (sg 45)) g (sN (sg 45)) (sN (sg 45) + 5 + reN (sg 45))))) (24 + (sN (sg 45))))) rfl ?_
    refine g_top (y := (sg 45 (24 + sN (sg 45)))) (by rw [upd_ne (by omega), emb_out (by omega)]) ?_
    refine g_iload_n C 4 rfl rfl dX5_turnsOnce_59 ?_
    refine g_iadd C dX5_turnsOnce_60 ?_
    refine g_bipush C (v := (nI 10)) (by decide) dX5_turnsOnce_61 ?_
    refine g_iadd C dX5_turnsOnce_63 ?_
    refine g_bipush C (v := (nI 10)) (by decide) dX5_turnsOnce_64 ?_
    refine g_irem C (by decide) dX5_turnsOnce_66 ?_
    refine g_top (y := ctI (sg 45 (24 + sN (sg 45))) cts) rfl ?_
    refine g_iastN C (24 + (sN (sg 45))) e_45 (by omega) (by decide) dX5_turnsOnce_67 ?_
    refine g_sgE (sg' := (us sg 45 (upd (upd (emb 12 (tw false (wN (sg 45)) g (sN (sg 45)) ((sN (sg 45)) + 5 + (reN (sg 45)))) (sg 45)) 33 (sg 45 33 + bI (blP false (wN (sg 45)) g (sN (sg 45)) (sN (sg 45) + 5 + reN (sg 45))))) (24 + (sN (sg 45))) (ctI (sg 45 (24 + sN (sg 45))) cts)))) us_us ?_
    refine g_aload_n C 2 rfl rfl dX5_turnsOnce_68 ?_
    refine g_getR C (j := 0) cls5 e_44 rfl (by decide) fl_X5_7 dX5_turnsOnce_69 ?_
    refine g_bipush C (v := (nI 34)) (by decide) dX5_turnsOnce_72 ?_
    refine g_dup2 C rfl rfl dX5_turnsOnce_74 ?_
    refine g_ialdN C 34 e_45 (by decide) (by decide) dX5_turnsOnce_75 ?_
    refine g_top (y := ((upd (upd (emb 12 (tw false (wN (sg 45)) g (sN (sg 45)) ((sN (sg 45)) + 5 + (reN (sg 45)))) (sg 45)) 33 (sg 45 33 + bI (blP false (wN (sg 45)) g (sN (sg 45)) (sN (sg 45) + 5 + reN (sg 45))))) (24 + (sN (sg 45))) (ctI (sg 45 (24 + sN (sg 45))) cts)) 34)) rfl ?_
    refine g_top (y := (sg 45 34)) (by rw [upd_ne (by omega), upd_ne (by decide), emb_out (by decide)]) ?_
    refine g_iconst C (v := (nI 1)) (by decide) dX5_turnsOnce_76 ?_
    refine g_iadd C dX5_turnsOnce_77 ?_
    refine g_iastN C 34 e_45 (by decide) (by decide) dX5_turnsOnce_78 ?_
    refine g_sgE (sg' := (us sg 45 (upd (upd (upd (emb 12 (tw false (wN (sg 45)) g (sN (sg 45)) ((sN (sg 45)) + 5 + (reN (sg 45)))) (sg 45)) 33 (sg 45 33 + bI (blP false (wN (sg 45)) g (sN (sg 45)) (sN (sg 45) + 5 + reN (sg 45))))) (24 + (sN (sg 45))) (ctI (sg 45 (24 + sN (sg 45))) cts)) 34 ((sg 45 34) + (nI 1))))) us_us ?_
    refine g_iload C 0 rfl dX5_turnsOnce_79 ?_
    exact g_zret C E dX5_turnsOnce_81 bI_nar rfl Sq.rf rfl
set_option maxRecDepth 100000 in
set_option maxHeartbeats 4000000 in
theorem c_X5_doesTurns_up (w : GW) (tu : Int64) (sg : Sg) (n : Nat) (hn1 : 1 ≤ n) (hn : n ≤ 99) (hok : ROk (sg 45)) : Kt w yX5_doesTurns cX5_doesTurns 5 (some .int) 2 [.ref (ad w 44), .int (nI n), .int (nI 1)] sg tu (some (.int (rgs true (nI 1) (gN (sg 45)) (sg 45) n))) (us (us sg 50 (fun d => whX ((sg 45) (6 + d)) (dN (sg 45) d + 1))) 45 (itR true (nI 1) (gN (sg 45)) n (sg 45))) tu := by
  refine Kt.of2 RX5 rfl [(0, .ref (ad w 44)), (1, .int (nI n)), (2, .int (nI 1))] (by decide) rfl (Nat.le_of_ble_eq_true rfl) (fun z C E => ?_)
  refine g_iload_n C 1 rfl rfl dX5_doesTurns_0 ?_
  refine g_i2l C dX5_doesTurns_1 ?_
  refine g_lconst C (v := 1) (by decide) dX5_doesTurns_2 ?_
  refine g_ldc2 C cn_X5_65 dX5_doesTurns_3 ?_
  refine g_callS1 [] C (c_X5_in_t w tu sg (Int32.toInt64 (nI n)) 1 99 (in_ok1 (n := 99) (by omega) (by omega) (by decide))) mt_X5_in ml_X5_53 st_X5_in (by decide) rfl (Nat.le_of_ble_eq_true rfl) dX5_doesTurns_6 ?_
  refine g_eq (L' := [(0, .ref (ad w 44)), (1, .int (nI n)), (2, .int (nI 1))]) (S' := [.int (nI 1)]) rfl rfl rfl rfl ?_
  refine g_if_ne C (tgt := 15) (by decide) dX5_doesTurns_9 (fun h9 => ?_) (fun h9 => absurd h9 (by decide))
  refine g_aload_n C 0 rfl rfl dX5_doesTurns_15 ?_
  refine g_callV0 [] C (c_X5_laysGives w tu sg  (dN (sg 45)) hok.1) mt_X5_laysGives e_44 rfl ml_X5_67 im_X5_laysGives se_X5_laysGives (by decide) rfl (Nat.le_of_ble_eq_true rfl) dX5_doesTurns_16 ?_
  refine g_eq (sg' := (us sg 50 (fun d => whX ((sg 45) (6 + d)) ((dN (sg 45)) d + 1)))) (L' := [(0, .ref (ad w 44)), (1, .int (nI n)), (2, .int (nI 1))]) (S' := []) rfl rfl rfl rfl ?_
  refine g_iconst C (v := (nI 0)) (by decide) dX5_doesTurns_19 ?_
  refine g_istore_n C (L' := [(3, .int (nI 0)), (0, .ref (ad w 44)), (1, .int (nI n)), (2, .int (nI 1))]) rfl (by decide) rfl dX5_doesTurns_20 ?_
  refine g_iconst C (v := (nI 0)) (by decide) dX5_doesTurns_21 ?_
  refine g_istore C (L' := [(4, .int (nI 0)), (3, .int (nI 0)), (0, .ref (ad w 44)), (1, .int (nI n)), (2, .int (nI 1))]) (by decide) rfl dX5_doesTurns_22 ?_
  have lp : ∀ (nf i : Nat) (m : Int32), n < i + nf → i ≤ n → (m = rgs true (nI 1) (gN (sg 45)) (sg 45) i) → G z w 5 (us (us sg 50 (fun d => whX ((sg 45) (6 + d)) (dN (sg 45) d + 1))) 45 (itR true (nI 1) (gN (sg 45)) i (sg 45))) tu 24 [(4, .int (nI i)), (3, .int m), (0, .ref (ad w 44)), (1, .int (nI n)), (2, .int (nI 1))] [] := by
    intro nf
    induction nf with
    | zero => intro i m h1 h2 hI; exact absurd h1 (by omega)
    | succ nf ih =>
      intro i m h1 h2 hI
      refine g_iload C 0 rfl dX5_doesTurns_24 ?_
      refine g_iload_n C 3 rfl rfl dX5_doesTurns_26 ?_
      refine g_icmpN_ge C i n (by omega) (by omega) (tgt := 53) (by decide) dX5_doesTurns_27 (fun h27 => ?_) (fun h27 => ?_)
      ·
        have hiN : i = n := by omega
        subst hiN
        refine g_iload_n C 1 rfl rfl dX5_doesTurns_53 ?_
        exact g_iret C E dX5_doesTurns_54 hI Sq.rf rfl
      ·
        refine g_iload_n C 1 rfl rfl dX5_doesTurns_30 ?_
        refine g_aload_n C 2 rfl rfl dX5_doesTurns_31 ?_
        refine g_iload_n C 4 rfl rfl dX5_doesTurns_32 ?_
        refine g_iload_n C 4 rfl rfl dX5_doesTurns_33 ?_
        refine g_callV1 [.int m] C (c_X5_turnsOnce_up w tu (us (us sg 50 (fun d => whX ((sg 45) (6 + d)) (dN (sg 45) d + 1))) 45 (itR true (nI 1) (gN (sg 45)) i (sg 45))) (nI 1) (gN (sg 45)) (itR_ok hok (fun _ h => (gN_ok hok h).2) i) (fun d h => (gN_ok hok h).1) (fun _ h => (gN_ok hok h).2)) mt_X5_turnsOnce e_44 rfl ml_X5_70 im_X5_turnsOnce se_X5_turnsOnce (by decide) rfl (Nat.le_of_ble_eq_true rfl) dX5_doesTurns_34 ?_
        refine g_eq (sg' := (us (us (us sg 50 (fun d => whX ((sg 45) (6 + d)) (dN (sg 45) d + 1))) 45 (itR true (nI 1) (gN (sg 45)) i (sg 45))) 45 (tR true (nI 1) (gN (sg 45)) (itR true (nI 1) (gN (sg 45)) i (sg 45))))) (L' := [(4, .int (nI i)), (3, .int m), (0, .ref (ad w 44)), (1, .int (nI n)), (2, .int (nI 1))]) (S' := [.int (bI (blP true (wN (itR true (nI 1) (gN (sg 45)) i (sg 45))) (gN (sg 45)) (sN (itR true (nI 1) (gN (sg 45)) i (sg 45))) (sN (itR true (nI 1) (gN (sg 45)) i (sg 45)) + 5 + reN (itR true (nI 1) (gN (sg 45)) i (sg 45))))), .int m]) rfl rfl rfl rfl ?_
        refine g_bif_eq C (tgt := 44) (by decide) dX5_doesTurns_37 (fun h37 => ?_) (fun h37 => ?_)
        ·
          refine g_iconst C (v := (nI 0)) (by decide) dX5_doesTurns_44 ?_
          refine g_iadd C dX5_doesTurns_45 ?_
          refine g_istore_n C (L' := [(3, .int (m + (nI 0))), (4, .int (nI i)), (0, .ref (ad w 44)), (1, .int (nI n)), (2, .int (nI 1))]) rfl (by decide) rfl dX5_doesTurns_46 ?_
          refine g_iinc C (n := 1) (v := (nI (i + 1))) (L' := [(4, .int (nI (i + 1))), (3, .int (m + (nI 0))), (0, .ref (ad w 44)), (1, .int (nI n)), (2, .int (nI 1))]) 1 rfl (nI_add i 1) (by decide) rfl dX5_doesTurns_47 ?_
          refine g_goto C (tgt := 24) (by decide) dX5_doesTurns_50 ?_
          refine g_sub (L' := [(4, .int (nI (i + 1))), (3, .int (m + (nI 0))), (0, .ref (ad w 44)), (1, .int (nI n)), (2, .int (nI 1))]) [0, 1, 2, 3, 4] rfl ?_
          refine g_sgE (sg' := (us (us sg 50 (fun d => whX ((sg 45) (6 + d)) (dN (sg 45) d + 1))) 45 (itR true (nI 1) (gN (sg 45)) (i + 1) (sg 45)))) us_us ?_
          exact ih (i + 1) (m + (nI 0)) (by omega) (by omega) (by rw [hI]; show _ = rgs true (nI 1) (gN (sg 45)) (sg 45) i + _; rw [bI_f h37]; rfl)
        ·
          refine g_iconst C (v := (nI 1)) (by decide) dX5_doesTurns_40 ?_
          refine g_goto C (tgt := 45) (by decide) dX5_doesTurns_41 ?_
          refine g_iadd C dX5_doesTurns_45 ?_
          refine g_istore_n C (L' := [(3, .int (m + (nI 1))), (4, .int (nI i)), (0, .ref (ad w 44)), (1, .int (nI n)), (2, .int (nI 1))]) rfl (by decide) rfl dX5_doesTurns_46 ?_
          refine g_iinc C (n := 1) (v := (nI (i + 1))) (L' := [(4, .int (nI (i + 1))), (3, .int (m + (nI 1))), (0, .ref (ad w 44)), (1, .int (nI n)), (2, .int (nI 1))]) 1 rfl (nI_add i 1) (by decide) rfl dX5_doesTurns_47 ?_
          refine g_goto C (tgt := 24) (by decide) dX5_doesTurns_50 ?_
          refine g_sub (L' := [(4, .int (nI (i + 1))), (3, .int (m + (nI 1))), (0, .ref (ad w 44)), (1, .int (nI n)), (2, .int (nI 1))]) [0, 1, 2, 3, 4] rfl ?_
          refine g_sgE (sg' := (us (us sg 50 (fun d => whX ((sg 45) (6 + d)) (dN (sg 45) d + 1))) 45 (itR true (nI 1) (gN (sg 45)) (i + 1) (sg 45)))) us_us ?_
          exact ih (i + 1) (m + (nI 1)) (by omega) (by omega) (by rw [hI]; show _ = rgs true (nI 1) (gN (sg 45)) (sg 45) i + _; rw [bI_t h37]; rfl)
  refine g_sgE (sg' := (us (us sg 50 (fun d => whX ((sg 45) (6 + d)) (dN (sg 45) d + 1))) 45 (itR true (nI 1) (gN (sg 45)) 0 (sg 45)))) (us_id (sg := us sg 50 _) (k := 45)).symm ?_
  exact lp (n + 1) 0 (nI 0) (by omega) (by omega) rfl
set_option maxRecDepth 100000 in
set_option maxHeartbeats 4000000 in
theorem c_X5_doesTurns_up_bad (w : GW) (tu : Int64) (sg : Sg) (v : Int32) (h : ¬ (1 ≤ Int32.toInt64 v ∧ Int32.toInt64 v ≤ 99)) : Kt w yX5_doesTurns cX5_doesTurns 5 (some .int) 1 [.ref (ad w 44), .int v, .int (nI 1)] sg tu (some (.int (-2))) sg tu := by
  refine Kt.of2 RX5 rfl [(0, .ref (ad w 44)), (1, .int v), (2, .int (nI 1))] (by decide) rfl (Nat.le_of_ble_eq_true rfl) (fun z C E => ?_)
  refine g_iload_n C 1 rfl rfl dX5_doesTurns_0 ?_
  refine g_i2l C dX5_doesTurns_1 ?_
  refine g_lconst C (v := 1) (by decide) dX5_doesTurns_2 ?_
  refine g_ldc2 C cn_X5_65 dX5_doesTurns_3 ?_
  refine g_callS1 [] C (c_X5_in w tu sg (Int32.toInt64 v) 1 99 ) mt_X5_in ml_X5_53 st_X5_in (by decide) rfl (Nat.le_of_ble_eq_true rfl) dX5_doesTurns_6 ?_
  refine g_eq (L' := [(0, .ref (ad w 44)), (1, .int v), (2, .int (nI 1))]) (S' := [.int (bI (1 ≤ (Int32.toInt64 v) ∧ (Int32.toInt64 v) ≤ 99))]) rfl rfl rfl rfl ?_
  refine g_bif_ne C (tgt := 15) (by decide) dX5_doesTurns_9 (fun h9 => absurd h9 h) (fun h9 => ?_)
  refine g_bipush C (v := (-2)) (by decide) dX5_doesTurns_12 ?_
  exact g_iret C E dX5_doesTurns_14 rfl Sq.rf rfl
set_option maxRecDepth 100000 in
set_option maxHeartbeats 4000000 in
theorem c_X5_doesTurns_dn (w : GW) (tu : Int64) (sg : Sg) (n : Nat) (hn1 : 1 ≤ n) (hn : n ≤ 99) (hok : ROk (sg 45)) : Kt w yX5_doesTurns cX5_doesTurns 5 (some .int) 2 [.ref (ad w 44), .int (nI n), .int (-1)] sg tu (some (.int (rgs false (-1) (gN (sg 45)) (sg 45) n))) (us (us sg 50 (fun d => whX ((sg 45) (6 + d)) (dN (sg 45) d + 1))) 45 (itR false (-1) (gN (sg 45)) n (sg 45))) tu := by
  refine Kt.of2 RX5 rfl [(0, .ref (ad w 44)), (1, .int (nI n)), (2, .int (-1))] (by decide) rfl (Nat.le_of_ble_eq_true rfl) (fun z C E => ?_)
  refine g_iload_n C 1 rfl rfl dX5_doesTurns_0 ?_
  refine g_i2l C dX5_doesTurns_1 ?_
  refine g_lconst C (v := 1) (by decide) dX5_doesTurns_2 ?_
  refine g_ldc2 C cn_X5_65 dX5_doesTurns_3 ?_
  refine g_callS1 [] C (c_X5_in_t w tu sg (Int32.toInt64 (nI n)) 1 99 (in_ok1 (n := 99) (by omega) (by omega) (by decide))) mt_X5_in ml_X5_53 st_X5_in (by decide) rfl (Nat.le_of_ble_eq_true rfl) dX5_doesTurns_6 ?_
  refine g_eq (L' := [(0, .ref (ad w 44)), (1, .int (nI n)), (2, .int (-1))]) (S' := [.int (nI 1)]) rfl rfl rfl rfl ?_
  refine g_if_ne C (tgt := 15) (by decide) dX5_doesTurns_9 (fun h9 => ?_) (fun h9 => absurd h9 (by decide))
  refine g_aload_n C 0 rfl rfl dX5_doesTurns_15 ?_
  refine g_callV0 [] C (c_X5_laysGives w tu sg  (dN (sg 45)) hok.1) mt_X5_laysGives e_44 rfl ml_X5_67 im_X5_laysGives se_X5_laysGives (by decide) rfl (Nat.le_of_ble_eq_true rfl) dX5_doesTurns_16 ?_
  refine g_eq (sg' := (us sg 50 (fun d => whX ((sg 45) (6 + d)) ((dN (sg 45)) d + 1)))) (L' := [(0, .ref (ad w 44)), (1, .int (nI n)), (2, .int (-1))]) (S' := []) rfl rfl rfl rfl ?_
  refine g_iconst C (v := (nI 0)) (by decide) dX5_doesTurns_19 ?_
  refine g_istore_n C (L' := [(3, .int (nI 0)), (0, .ref (ad w 44)), (1, .int (nI n)), (2, .int (-1))]) rfl (by decide) rfl dX5_doesTurns_20 ?_
  refine g_iconst C (v := (nI 0)) (by decide) dX5_doesTurns_21 ?_
  refine g_istore C (L' := [(4, .int (nI 0)), (3, .int (nI 0)), (0, .ref (ad w 44)), (1, .int (nI n)), (2, .int (-1))]) (by decide) rfl dX5_doesTurns_22 ?_
  have lp : ∀ (nf i : Nat) (m : Int32), n < i + nf → i ≤ n → (m = rgs false (-1) (gN (sg 45)) (sg 45) i) → G z w 5 (us (us sg 50 (fun d => whX ((sg 45) (6 + d)) (dN (sg 45) d + 1))) 45 (itR false (-1) (gN (sg 45)) i (sg 45))) tu 24 [(4, .int (nI i)), (3, .int m), (0, .ref (ad w 44)), (1, .int (nI n)), (2, .int (-1))] [] := by
    intro nf
    induction nf with
    | zero => intro i m h1 h2 hI; exact absurd h1 (by omega)
    | succ nf ih =>
      intro i m h1 h2 hI
      refine g_iload C 0 rfl dX5_doesTurns_24 ?_
      refine g_iload_n C 3 rfl rfl dX5_doesTurns_26 ?_
      refine g_icmpN_ge C i n (by omega) (by omega) (tgt := 53) (by decide) dX5_doesTurns_27 (fun h27 => ?_) (fun h27 => ?_)
      ·
        have hiN : i = n := by omega
        subst hiN
        refine g_iload_n C 1 rfl rfl dX5_doesTurns_53 ?_
        exact g_iret C E dX5_doesTurns_54 hI Sq.rf rfl
      ·
        refine g_iload_n C 1 rfl rfl dX5_doesTurns_30 ?_
        refine g_aload_n C 2 rfl rfl dX5_doesTurns_31 ?_
        refine g_iload_n C 4 rfl rfl dX5_doesTurns_32 ?_
        refine g_iload_n C 4 rfl rfl dX5_doesTurns_33 ?_
        refine g_callV1 [.int m] C (c_X5_turnsOnce_dn w tu (us (us sg 50 (fun d => whX ((sg 45) (6 + d)) (dN (sg 45) d + 1))) 45 (itR false (-1) (gN (sg 45)) i (sg 45))) (-1) (gN (sg 45)) (itR_ok hok (fun _ h => (gN_ok hok h).2) i) (fun d h => (gN_ok hok h).1) (fun _ h => (gN_ok hok h).2)) mt_X5_turnsOnce e_44 rfl ml_X5_70 im_X5_turnsOnce se_X5_turnsOnce (by decide) rfl (Nat.le_of_ble_eq_true rfl) dX5_doesTurns_34 ?_
        refine g_eq (sg' := (us (us (us sg 50 (fun d => whX ((sg 45) (6 + d)) (dN (sg 45) d + 1))) 45 (itR false (-1) (gN (sg 45)) i (sg 45))) 45 (tR false (-1) (gN (sg 45)) (itR false (-1) (gN (sg 45)) i (sg 45))))) (L' := [(4, .int (nI i)), (3, .int m), (0, .ref (ad w 44)), (1, .int (nI n)), (2, .int (-1))]) (S' := [.int (bI (blP false (wN (itR false (-1) (gN (sg 45)) i (sg 45))) (gN (sg 45)) (sN (itR false (-1) (gN (sg 45)) i (sg 45))) (sN (itR false (-1) (gN (sg 45)) i (sg 45)) + 5 + reN (itR false (-1) (gN (sg 45)) i (sg 45))))), .int m]) rfl rfl rfl rfl ?_
        refine g_bif_eq C (tgt := 44) (by decide) dX5_doesTurns_37 (fun h37 => ?_) (fun h37 => ?_)
        ·
          refine g_iconst C (v := (nI 0)) (by decide) dX5_doesTurns_44 ?_
          refine g_iadd C dX5_doesTurns_45 ?_
          refine g_istore_n C (L' := [(3, .int (m + (nI 0))), (4, .int (nI i)), (0, .ref (ad w 44)), (1, .int (nI n)), (2, .int (-1))]) rfl (by decide) rfl dX5_doesTurns_46 ?_
          refine g_iinc C (n := 1) (v := (nI (i + 1))) (L' := [(4, .int (nI (i + 1))), (3, .int (m + (nI 0))), (0, .ref (ad w 44)), (1, .int (nI n)), (2, .int (-1))]) 1 rfl (nI_add i 1) (by decide) rfl dX5_doesTurns_47 ?_
          refine g_goto C (tgt := 24) (by decide) dX5_doesTurns_50 ?_
          refine g_sub (L' := [(4, .int (nI (i + 1))), (3, .int (m + (nI 0))), (0, .ref (ad w 44)), (1, .int (nI n)), (2, .int (-1))]) [0, 1, 2, 3, 4] rfl ?_
          refine g_sgE (sg' := (us (us sg 50 (fun d => whX ((sg 45) (6 + d)) (dN (sg 45) d + 1))) 45 (itR false (-1) (gN (sg 45)) (i + 1) (sg 45)))) us_us ?_
          exact ih (i + 1) (m + (nI 0)) (by omega) (by omega) (by rw [hI]; show _ = rgs false (-1) (gN (sg 45)) (sg 45) i + _; rw [bI_f h37]; rfl)
        ·
          refine g_iconst C (v := (nI 1)) (by decide) dX5_doesTurns_40 ?_
          refine g_goto C (tgt := 45) (by decide) dX5_doesTurns_41 ?_
          refine g_iadd C dX5_doesTurns_45 ?_
          refine g_istore_n C (L' := [(3, .int (m + (nI 1))), (4, .int (nI i)), (0, .ref (ad w 44)), (1, .int (nI n)), (2, .int (-1))]) rfl (by decide) rfl dX5_doesTurns_46 ?_
          refine g_iinc C (n := 1) (v := (nI (i + 1))) (L' := [(4, .int (nI (i + 1))), (3, .int (m + (nI 1))), (0, .ref (ad w 44)), (1, .int (nI n)), (2, .int (-1))]) 1 rfl (nI_add i 1) (by decide) rfl dX5_doesTurns_47 ?_
          refine g_goto C (tgt := 24) (by decide) dX5_doesTurns_50 ?_
          refine g_sub (L' := [(4, .int (nI (i + 1))), (3, .int (m + (nI 1))), (0, .ref (ad w 44)), (1, .int (nI n)), (2, .int (-1))]) [0, 1, 2, 3, 4] rfl ?_
          refine g_sgE (sg' := (us (us sg 50 (fun d => whX ((sg 45) (6 + d)) (dN (sg 45) d + 1))) 45 (itR false (-1) (gN (sg 45)) (i + 1) (sg 45)))) us_us ?_
          exact ih (i + 1) (m + (nI 1)) (by omega) (by omega) (by rw [hI]; show _ = rgs false (-1) (gN (sg 45)) (sg 45) i + _; rw [bI_t h37]; rfl)
  refine g_sgE (sg' := (us (us sg 50 (fun d => whX ((sg 45) (6 + d)) (dN (sg 45) d + 1))) 45 (itR false (-1) (gN (sg 45)) 0 (sg 45)))) (us_id (sg := us sg 50 _) (k := 45)).symm ?_
  exact lp (n + 1) 0 (nI 0) (by omega) (by omega) rfl
set_option maxRecDepth 100000 in
set_option maxHeartbeats 4000000 in
theorem c_X5_doesTurns_dn_bad (w : GW) (tu : Int64) (sg : Sg) (v : Int32) (h : ¬ (1 ≤ Int32.toInt64 v ∧ Int32.toInt64 v ≤ 99)) : Kt w yX5_doesTurns cX5_doesTurns 5 (some .int) 1 [.ref (ad w 44), .int v, .int (-1)] sg tu (some (.int (-2))) sg tu := by
  refine Kt.of2 RX5 rfl [(0, .ref (ad w 44)), (1, .int v), (2, .int (-1))] (by decide) rfl (Nat.le_of_ble_eq_true rfl) (fun z C E => ?_)
  refine g_iload_n C 1 rfl rfl dX5_doesTurns_0 ?_
  refine g_i2l C dX5_doesTurns_1 ?_
  refine g_lconst C (v := 1) (by decide) dX5_doesTurns_2 ?_
  refine g_ldc2 C cn_X5_65 dX5_doesTurns_3 ?_
  refine g_callS1 [] C (c_X5_in w tu sg (Int32.toInt64 v) 1 99 ) mt_X5_in ml_X5_53 st_X5_in (by decide) rfl (Nat.le_of_ble_eq_true rfl) dX5_doesTurns_6 ?_
  refine g_eq (L' := [(0, .ref (ad w 44)), (1, .int v), (2, .int (-1))]) (S' := [.int (bI (1 ≤ (Int32.toInt64 v) ∧ (Int32.toInt64 v) ≤ 99))]) rfl rfl rfl rfl ?_
  refine g_bif_ne C (tgt := 15) (by decide) dX5_doesTurns_9 (fun h9 => absurd h9 h) (fun h9 => ?_)
  refine g_bipush C (v := (-2)) (by decide) dX5_doesTurns_12 ?_
  exact g_iret C E dX5_doesTurns_14 rfl Sq.rf rfl
end
section
/-! plan's steps; turning down till the bell; division -/
theorem plan_not {how lf du : Nat} (h : how = 1 → lf % 10 + du ≤ 5) (h9 : lf % 10 + du ≤ 9) : pI how (lf + du) = nI (lf % 10 + du) ∧ aP how (lf + du) = lf % 10 + du ∧ nxP how (lf + du) = lf / 10 + 0 := by
  have e : (lf + du) % 10 = lf % 10 + du := by omega
  have hn : ¬ (how = 1 ∧ 5 < (lf + du) % 10) := fun q => by have := h q.1; omega
  unfold pI aP nxP
  rw [if_neg hn, if_neg hn, if_neg hn, e]
  exact ⟨rfl, rfl, by omega⟩
theorem plan_ov {lf du : Nat} (h : 5 < lf % 10 + du) (hd : du ≤ 1) : pI 1 (lf + du) = nI (lf % 10 + du) - nI 10 ∧ aP 1 (lf + du) = 10 - (lf % 10 + du) ∧ nxP 1 (lf + du) = lf / 10 + 1 := by
  unfold pI aP nxP
  by_cases h10 : lf % 10 + du = 10
  · have e : (lf + du) % 10 = 0 := by omega
    have hn : ¬ ((1 : Nat) = 1 ∧ 5 < (lf + du) % 10) := fun q => by omega
    rw [if_neg hn, if_neg hn, if_neg hn, e, h10]
    exact ⟨by decide, by omega, by omega⟩
  · have e : (lf + du) % 10 = lf % 10 + du := by omega
    have hy : (1 : Nat) = 1 ∧ 5 < (lf + du) % 10 := ⟨rfl, by omega⟩
    rw [if_pos hy, if_pos hy, if_pos hy, e]
    exact ⟨rfl, rfl, by omega⟩
theorem muR_no {how n k : Nat} {g : Nat → Nat} {f : Nat → Int32} (h : ¬ (how = 1 ∧ 5 < mkP how n k % 10)) : muR how n g (k + 1) f = itR true (nI 1) g (mkP how n k % 10) (upd (muR how n g k f) 31 (nI k)) := by
  show itR (!ovB how (mkP how n k)) (if how = 1 ∧ 5 < mkP how n k % 10 then (-1) else nI 1) g (aP how (mkP how n k)) _ = _
  unfold aP ovB
  rw [if_neg h, if_neg h, decide_eq_false h]
  rfl
theorem muR_ov {how n k : Nat} {g : Nat → Nat} {f : Nat → Int32} (h : how = 1 ∧ 5 < mkP how n k % 10) : muR how n g (k + 1) f = itR false (-1) g (10 - mkP how n k % 10) (upd (muR how n g k f) 31 (nI k)) := by
  show itR (!ovB how (mkP how n k)) (if how = 1 ∧ 5 < mkP how n k % 10 then (-1) else nI 1) g (aP how (mkP how n k)) _ = _
  unfold aP ovB
  rw [if_pos h, if_pos h, decide_eq_true h]
  rfl
theorem us_rot {sg : Sg} {a b c : Nat} {f g h : Nat → Int32} (h1 : a ≠ b) (h2 : a ≠ c) : us (us (us sg a f) b g) c h = us (us (us sg b g) c h) a f := by
  rw [us_comm (sg := sg) h1, us_comm h2]
/-- turned down till the bell, at most n times: the row then, whether it rang, how many turns -/
def dwn (g : Nat → Nat) : Nat → (Nat → Int32) → Nat → Int32
  | 0, f => f
  | n + 1, f => if blP false (wN f) g (sN f) (sN f + 5 + reN f) then tR false (nI 1) g f else dwn g n (tR false (nI 1) g f)
def dwB (g : Nat → Nat) : Nat → (Nat → Int32) → Bool
  | 0, _ => false
  | n + 1, f => if blP false (wN f) g (sN f) (sN f + 5 + reN f) then true else dwB g n (tR false (nI 1) g f)
def dwC (g : Nat → Nat) : Nat → (Nat → Int32) → Nat
  | 0, _ => 0
  | n + 1, f => if blP false (wN f) g (sN f) (sN f + 5 + reN f) then 1 else dwC g n (tR false (nI 1) g f) + 1
theorem dwn_t {g : Nat → Nat} {n : Nat} {f : Nat → Int32} (h : blP false (wN f) g (sN f) (sN f + 5 + reN f)) : dwn g (n + 1) f = tR false (nI 1) g f := if_pos h
theorem dwn_f {g : Nat → Nat} {n : Nat} {f : Nat → Int32} (h : ¬ blP false (wN f) g (sN f) (sN f + 5 + reN f)) : dwn g (n + 1) f = dwn g n (tR false (nI 1) g f) := if_neg h
theorem dwB_t {g : Nat → Nat} {n : Nat} {f : Nat → Int32} (h : blP false (wN f) g (sN f) (sN f + 5 + reN f)) : dwB g (n + 1) f = true := if_pos h
theorem dwB_f {g : Nat → Nat} {n : Nat} {f : Nat → Int32} (h : ¬ blP false (wN f) g (sN f) (sN f + 5 + reN f)) : dwB g (n + 1) f = dwB g n (tR false (nI 1) g f) := if_neg h
theorem dwn_ok {g : Nat → Nat} (hg : ∀ i, i < 6 → g i ≤ 9) : ∀ n f, ROk f → ROk (dwn g n f)
  | 0, _, h => h
  | n + 1, f, h => by
    by_cases hb : blP false (wN f) g (sN f) (sN f + 5 + reN f)
    · rw [dwn_t hb]; exact tR_ok h hg
    · rw [dwn_f hb]; exact dwn_ok hg n _ (tR_ok h hg)
theorem dwn_lo {g : Nat → Nat} {j : Nat} (hj : j < 12) : ∀ n f, dwn g n f j = f j
  | 0, _ => rfl
  | n + 1, f => by
    by_cases hb : blP false (wN f) g (sN f) (sN f + 5 + reN f)
    · rw [dwn_t hb, tR_lo hj]
    · rw [dwn_f hb, dwn_lo hj n, tR_lo hj]
theorem dwC_le {g : Nat → Nat} : ∀ n f, dwC g n f ≤ n
  | 0, _ => Nat.le_refl _
  | n + 1, f => by
    have h := dwC_le (g := g) n (tR false (nI 1) g f)
    unfold dwC
    split <;> omega
theorem dwn_34 {g : Nat → Nat} : ∀ n f, dwn g n f 34 = f 34 + nI (dwC g n f)
  | 0, f => by show f 34 = f 34 + nI 0; rw [nI_0, Int32.add_zero]
  | n + 1, f => by
    unfold dwn dwC
    split
    · rw [tR_34]
    · rw [dwn_34 n, tR_34, Int32.add_assoc, nI_add, Nat.add_comm]
def ccR (f : Nat → Int32) : Nat → Int32 := fw 24 (fun _ => nI 0) f 7
theorem ccR_out {f : Nat → Int32} {j : Nat} (hj : j < 24 ∨ 31 ≤ j) : ccR f j = f j := by unfold ccR; rw [fw_out (by omega)]
theorem ccR_ok {f : Nat → Int32} (hf : ROk f) : ROk (ccR f) := by
  refine ROk.mk (d := dN f) (o := oN f) (wh := wN f) (s := sN f) (re := reN f) (fun k hk => ?_) (fun k hk => ?_) (fun k hk => ?_) ?_ ?_
  · rw [ccR_out (by omega)]; exact hf.1 k hk
  · rw [ccR_out (by omega)]; exact hf.2.1 k hk
  · rw [ccR_out (by omega)]; exact hf.2.2.1 k hk
  · rw [ccR_out (by omega)]; exact hf.2.2.2.1
  · rw [ccR_out (by omega)]; exact hf.2.2.2.2
/-- the shifts of a division from s - 1 down -/
def dvF (g : Nat → Nat) : Nat → (Nat → Int32) → Nat → Int32
  | 0, f => f
  | s + 1, f => if dwB g 20 (upd f 31 (nI s)) = true then dvF g s (tR true (-1) g (dwn g 20 (upd f 31 (nI s)))) else dwn g 20 (upd f 31 (nI s))
def dvB (g : Nat → Nat) : Nat → (Nat → Int32) → Bool
  | 0, _ => true
  | s + 1, f => if dwB g 20 (upd f 31 (nI s)) = true then dvB g s (tR true (-1) g (dwn g 20 (upd f 31 (nI s)))) else false
def dvC (g : Nat → Nat) : Nat → (Nat → Int32) → Nat
  | 0, _ => 0
  | s + 1, f => dwC g 20 (upd f 31 (nI s)) + 1 + dvC g s (tR true (-1) g (dwn g 20 (upd f 31 (nI s))))
theorem dvF_t {g : Nat → Nat} {s : Nat} {f : Nat → Int32} (h : dwB g 20 (upd f 31 (nI s)) = true) : dvF g (s + 1) f = dvF g s (tR true (-1) g (dwn g 20 (upd f 31 (nI s)))) := if_pos h
theorem dvF_f {g : Nat → Nat} {s : Nat} {f : Nat → Int32} (h : ¬ dwB g 20 (upd f 31 (nI s)) = true) : dvF g (s + 1) f = dwn g 20 (upd f 31 (nI s)) := if_neg h
theorem dvB_t {g : Nat → Nat} {s : Nat} {f : Nat → Int32} (h : dwB g 20 (upd f 31 (nI s)) = true) : dvB g (s + 1) f = dvB g s (tR true (-1) g (dwn g 20 (upd f 31 (nI s)))) := if_pos h
theorem dvB_f {g : Nat → Nat} {s : Nat} {f : Nat → Int32} (h : ¬ dwB g 20 (upd f 31 (nI s)) = true) : dvB g (s + 1) f = false := if_neg h
theorem dv_step_ok {g : Nat → Nat} {s : Nat} {f : Nat → Int32} (hf : ROk f) (hg : ∀ i, i < 6 → g i ≤ 9) (hs : s ≤ 6) : ROk (tR true (-1) g (dwn g 20 (upd f 31 (nI s)))) := tR_ok (dwn_ok hg 20 _ (sh_ok hf hs)) hg
theorem dvF_ok {g : Nat → Nat} (hg : ∀ i, i < 6 → g i ≤ 9) : ∀ s f, s ≤ 7 → ROk f → ROk (dvF g s f)
  | 0, _, _, h => h
  | s + 1, f, hs, h => by
    by_cases hb : dwB g 20 (upd f 31 (nI s)) = true
    · rw [dvF_t hb]; exact dvF_ok hg s _ (by omega) (dv_step_ok h hg (by omega))
    · rw [dvF_f hb]; exact dwn_ok hg 20 _ (sh_ok h (by omega))
theorem dvC_le {g : Nat → Nat} : ∀ s f, dvC g s f ≤ 21 * s
  | 0, _ => Nat.le_refl _
  | s + 1, f => by
    have h1 := dwC_le (g := g) 20 (upd f 31 (nI s))
    have h2 := dvC_le (g := g) s (tR true (-1) g (dwn g 20 (upd f 31 (nI s))))
    show dwC g 20 (upd f 31 (nI s)) + 1 + dvC g s _ ≤ _
    omega
theorem dvF_34 {g : Nat → Nat} : ∀ s f, dvB g s f = true → dvF g s f 34 = f 34 + nI (dvC g s f)
  | 0, f, _ => by show f 34 = f 34 + nI 0; rw [nI_0, Int32.add_zero]
  | s + 1, f, h => by
    by_cases hb : dwB g 20 (upd f 31 (nI s)) = true
    · rw [dvB_t hb] at h
      rw [dvF_t hb, dvF_34 s _ h, tR_34, dwn_34, upd_ne (by omega)]
      show f 34 + nI (dwC g 20 (upd f 31 (nI s))) + nI 1 + nI _ = f 34 + nI (dwC g 20 (upd f 31 (nI s)) + 1 + _)
      rw [Int32.add_assoc, Int32.add_assoc, nI_add, nI_add, Nat.add_assoc]
    · rw [dvB_f hb] at h; cases h
def gsm (g : Nat → Nat) : Nat → Nat
  | 0 => 0
  | n + 1 => gsm g n + g n
theorem gsm_le {g : Nat → Nat} (hg : ∀ i, i < 6 → g i ≤ 9) : ∀ n, n ≤ 6 → gsm g n ≤ 9 * n
  | 0, _ => Nat.le_refl _
  | n + 1, h => by
    have h1 := gsm_le hg n (by omega)
    have h2 := hg n (by omega)
    show gsm g n + g n ≤ _
    omega
end
section
set_option maxRecDepth 100000 in
set_option maxHeartbeats 4000000 in
theorem c_X5_laysPlan_0 (w : GW) (tu : Int64) (sg : Sg) (n : Nat) (hn : n ≤ 999999) : Kt w yX5_laysPlan cX5_laysPlan 9 (some .int) 0 [.ref (ad w 44), .int (nI n), .int (nI 0)] sg tu (some (.int (nI (smP 0 n 7)))) (us sg 52 (fun k => pI 0 (mkP 0 n k))) tu := by
  refine Kt.of2 RX5 rfl [(0, .ref (ad w 44)), (1, .int (nI n)), (2, .int (nI 0))] (by decide) rfl (Nat.le_of_ble_eq_true rfl) (fun z C E => ?_)
  refine g_iload_n C 1 rfl rfl dX5_laysPlan_0 ?_
  refine g_istore_n C (L' := [(3, .int (nI n)), (0, .ref (ad w 44)), (1, .int (nI n)), (2, .int (nI 0))]) rfl (by decide) rfl dX5_laysPlan_1 ?_
  refine g_iconst C (v := (nI 0)) (by decide) dX5_laysPlan_2 ?_
  refine g_istore C (L' := [(4, .int (nI 0)), (3, .int (nI n)), (0, .ref (ad w 44)), (1, .int (nI n)), (2, .int (nI 0))]) (by decide) rfl dX5_laysPlan_3 ?_
  refine g_iconst C (v := (nI 0)) (by decide) dX5_laysPlan_5 ?_
  refine g_istore C (L' := [(5, .int (nI 0)), (4, .int (nI 0)), (3, .int (nI n)), (0, .ref (ad w 44)), (1, .int (nI n)), (2, .int (nI 0))]) (by decide) rfl dX5_laysPlan_6 ?_
  refine g_iconst C (v := (nI 0)) (by decide) dX5_laysPlan_8 ?_
  refine g_istore C (L' := [(6, .int (nI 0)), (5, .int (nI 0)), (4, .int (nI 0)), (3, .int (nI n)), (0, .ref (ad w 44)), (1, .int (nI n)), (2, .int (nI 0))]) (by decide) rfl dX5_laysPlan_9 ?_
  have lp : ∀ (nf i : Nat) (lf : Nat) (du : Nat) (sm : Nat), 7 < i + nf → i ≤ 7 → (lf + du = mkP 0 n i ∧ du ≤ 1 ∧ lf ≤ 999999 ∧ sm = smP 0 n i ∧ (0 = 0 → du = 0)) → G z w 9 (us sg 52 (fw 0 (fun k => pI 0 (mkP 0 n k)) (sg 52) i)) tu 11 [(6, .int (nI i)), (5, .int (nI sm)), (4, .int (nI du)), (3, .int (nI lf)), (0, .ref (ad w 44)), (1, .int (nI n)), (2, .int (nI 0))] [] := by
    intro nf
    induction nf with
    | zero => intro i lf du sm h1 h2 hI; exact absurd h1 (by omega)
    | succ nf ih =>
      intro i lf du sm h1 h2 hI
      have hsm9 := smP_le (how := 0) (n := n) i
      refine g_iload C 0 rfl dX5_laysPlan_11 ?_
      refine g_bipush C (v := (nI 7)) (by decide) dX5_laysPlan_13 ?_
      refine g_icmpN_ge C i 7 (by omega) (by omega) (tgt := 123) (by decide) dX5_laysPlan_15 (fun h15 => ?_) (fun h15 => ?_)
      ·
        have hiN : i = 7 := by omega
        subst hiN
        refine g_iload C 1 rfl dX5_laysPlan_123 ?_
        exact g_iret C E dX5_laysPlan_125 (by rw [hI.2.2.2.1]) (Sq.us fun j hj => fw_in ⟨Nat.zero_le _, by rw [Nat.zero_add]; exact hj⟩) rfl
      ·
        refine g_iload_n C 3 rfl rfl dX5_laysPlan_18 ?_
        refine g_bipush C (v := (nI 10)) (by decide) dX5_laysPlan_19 ?_
        refine g_irem C (by decide) dX5_laysPlan_21 ?_
        refine g_top (y := (nI (lf % 10))) (pk_rem (show lf < 2 ^ 31 by omega) (by decide) (by decide)) ?_
        refine g_iload C 2 rfl dX5_laysPlan_22 ?_
        refine g_iadd C dX5_laysPlan_24 ?_
        refine g_top (y := (nI ((lf % 10) + du))) (nI_add (lf % 10) du) ?_
        refine g_istore C (L' := [(7, .int (nI ((lf % 10) + du))), (6, .int (nI i)), (5, .int (nI sm)), (4, .int (nI du)), (3, .int (nI lf)), (0, .ref (ad w 44)), (1, .int (nI n)), (2, .int (nI 0))]) (by decide) rfl dX5_laysPlan_25 ?_
        refine g_iload_n C 4 rfl rfl dX5_laysPlan_27 ?_
        refine g_bipush C (v := (nI 10)) (by decide) dX5_laysPlan_28 ?_
        refine g_idiv C (by decide) dX5_laysPlan_30 ?_
        refine g_top (y := (nI (lf / 10))) (pk_div (show lf < 2 ^ 31 by omega) (by decide) (by decide)) ?_
        refine g_istore_n C (L' := [(3, .int (nI (lf / 10))), (7, .int (nI ((lf % 10) + du))), (6, .int (nI i)), (5, .int (nI sm)), (4, .int (nI du)), (0, .ref (ad w 44)), (1, .int (nI n)), (2, .int (nI 0))]) rfl (by decide) rfl dX5_laysPlan_31 ?_
        refine g_iload_n C 7 rfl rfl dX5_laysPlan_32 ?_
        refine g_iconst C (v := (nI 1)) (by decide) dX5_laysPlan_33 ?_
        refine g_icmpN_ne C 0 1 (by omega) (by omega) (tgt := 47) (by decide) dX5_laysPlan_34 (fun h34 => ?_) (fun h34 => absurd h34 (by decide))
        refine g_iconst C (v := (nI 0)) (by decide) dX5_laysPlan_47 ?_
        refine g_istore C (L' := [(8, .int (nI 0)), (3, .int (nI (lf / 10))), (7, .int (nI ((lf % 10) + du))), (6, .int (nI i)), (5, .int (nI sm)), (4, .int (nI du)), (0, .ref (ad w 44)), (1, .int (nI n)), (2, .int (nI 0))]) (by decide) rfl dX5_laysPlan_48 ?_
        refine g_iload C 0 rfl dX5_laysPlan_50 ?_
        refine g_if_eq C (tgt := 59) (by decide) dX5_laysPlan_52 (fun h52 => ?_) (fun h52 => absurd h52 (by decide))
        refine g_iconst C (v := (nI 0)) (by decide) dX5_laysPlan_59 ?_
        refine g_istore C (L' := [(4, .int (nI 0)), (8, .int (nI 0)), (3, .int (nI (lf / 10))), (7, .int (nI ((lf % 10) + du))), (6, .int (nI i)), (5, .int (nI sm)), (0, .ref (ad w 44)), (1, .int (nI n)), (2, .int (nI 0))]) (by decide) rfl dX5_laysPlan_60 ?_
        refine g_aload_n C 6 rfl rfl dX5_laysPlan_62 ?_
        refine g_getR C (j := 9) cls5 e_44 rfl (by decide) fl_X5_31 dX5_laysPlan_63 ?_
        refine g_iload C 4 rfl dX5_laysPlan_66 ?_
        refine g_iload C 1 rfl dX5_laysPlan_68 ?_
        refine g_if_eq C (tgt := 81) (by decide) dX5_laysPlan_70 (fun h70 => ?_) (fun h70 => absurd h70 (by decide))
        refine g_iload C 3 rfl dX5_laysPlan_81 ?_
        refine g_iastN C i e_52 (by omega) (by decide) dX5_laysPlan_83 ?_
        refine g_sgE (sg' := (us sg 52 (upd (fw 0 (fun k => pI 0 (mkP 0 n k)) (sg 52) i) i (nI ((lf % 10) + du))))) us_us ?_
        refine g_iload C 5 rfl dX5_laysPlan_84 ?_
        refine g_aload_n C 6 rfl rfl dX5_laysPlan_86 ?_
        refine g_getR C (j := 9) cls5 e_44 rfl (by decide) fl_X5_31 dX5_laysPlan_87 ?_
        refine g_iload C 4 rfl dX5_laysPlan_90 ?_
        refine g_ialdN C i e_52 (by omega) (by decide) dX5_laysPlan_92 ?_
        refine g_top (y := (nI ((lf % 10) + du))) (show upd _ _ _ _ = _ from upd_same) ?_
        refine g_if_ge C (tgt := 107) (by decide) dX5_laysPlan_93 (fun h93 => ?_) (fun h93 => absurd (nI_pos' (by omega)) h93)
        refine g_aload_n C 6 rfl rfl dX5_laysPlan_107 ?_
        refine g_getR C (j := 9) cls5 e_44 rfl (by decide) fl_X5_31 dX5_laysPlan_108 ?_
        refine g_iload C 4 rfl dX5_laysPlan_111 ?_
        refine g_ialdN C i e_52 (by omega) (by decide) dX5_laysPlan_113 ?_
        refine g_top (y := (nI ((lf % 10) + du))) (show upd _ _ _ _ = _ from upd_same) ?_
        refine g_iadd C dX5_laysPlan_114 ?_
        refine g_top (y := (nI (sm + ((lf % 10) + du)))) (nI_add sm ((lf % 10) + du)) ?_
        refine g_istore C (L' := [(5, .int (nI (sm + ((lf % 10) + du)))), (4, .int (nI 0)), (8, .int (nI 0)), (3, .int (nI (lf / 10))), (7, .int (nI ((lf % 10) + du))), (6, .int (nI i)), (0, .ref (ad w 44)), (1, .int (nI n)), (2, .int (nI 0))]) (by decide) rfl dX5_laysPlan_115 ?_
        refine g_iinc C (n := 1) (v := (nI (i + 1))) (L' := [(6, .int (nI (i + 1))), (5, .int (nI (sm + ((lf % 10) + du)))), (4, .int (nI 0)), (8, .int (nI 0)), (3, .int (nI (lf / 10))), (7, .int (nI ((lf % 10) + du))), (0, .ref (ad w 44)), (1, .int (nI n)), (2, .int (nI 0))]) 5 rfl (nI_add i 1) (by decide) rfl dX5_laysPlan_117 ?_
        refine g_goto C (tgt := 11) (by decide) dX5_laysPlan_120 ?_
        have hpl := plan_not (how := 0) (lf := lf) (du := du) (fun q => absurd q (by decide)) (by have := hI.2.2.2.2 rfl; omega)
        refine g_sub (L' := [(6, .int (nI (i + 1))), (5, .int (nI (sm + ((lf % 10) + du)))), (4, .int (nI 0)), (3, .int (nI (lf / 10))), (0, .ref (ad w 44)), (1, .int (nI n)), (2, .int (nI 0))]) [0, 1, 2, 4, 6, 7, 8] rfl ?_
        refine g_sgE (sg' := (us sg 52 (fw 0 (fun k => pI 0 (mkP 0 n k)) (sg 52) (i + 1)))) (congrArg (us sg 52) (fw_s0 (by show _ = pI 0 (mkP 0 n i); rw [← hI.1, hpl.1]))) ?_
        exact ih (i + 1) (lf / 10) 0 (sm + ((lf % 10) + du)) (by omega) (by omega) (⟨by show _ = nxP 0 (mkP 0 n i); rw [← hI.1]; exact hpl.2.2.symm, by omega, by omega, by show _ = smP 0 n i + aP 0 (mkP 0 n i); rw [← hI.1, hpl.2.1, ← hI.2.2.2.1], fun _ => rfl⟩)
  refine g_sgE (sg' := (us sg 52 (fw 0 (fun k => pI 0 (mkP 0 n k)) (sg 52) 0))) (by rw [fw_0, us_id]) ?_
  exact lp (7 + 1) 0 n 0 0 (by omega) (by omega) (⟨rfl, by omega, hn, rfl, fun _ => rfl⟩)
set_option maxRecDepth 100000 in
set_option maxHeartbeats 4000000 in
theorem c_X5_laysPlan_1 (w : GW) (tu : Int64) (sg : Sg) (n : Nat) (hn : n ≤ 999999) : Kt w yX5_laysPlan cX5_laysPlan 9 (some .int) 0 [.ref (ad w 44), .int (nI n), .int (nI 1)] sg tu (some (.int (nI (smP 1 n 7)))) (us sg 52 (fun k => pI 1 (mkP 1 n k))) tu := by
  refine Kt.of2 RX5 rfl [(0, .ref (ad w 44)), (1, .int (nI n)), (2, .int (nI 1))] (by decide) rfl (Nat.le_of_ble_eq_true rfl) (fun z C E => ?_)
  refine g_iload_n C 1 rfl rfl dX5_laysPlan_0 ?_
  refine g_istore_n C (L' := [(3, .int (nI n)), (0, .ref (ad w 44)), (1, .int (nI n)), (2, .int (nI 1))]) rfl (by decide) rfl dX5_laysPlan_1 ?_
  refine g_iconst C (v := (nI 0)) (by decide) dX5_laysPlan_2 ?_
  refine g_istore C (L' := [(4, .int (nI 0)), (3, .int (nI n)), (0, .ref (ad w 44)), (1, .int (nI n)), (2, .int (nI 1))]) (by decide) rfl dX5_laysPlan_3 ?_
  refine g_iconst C (v := (nI 0)) (by decide) dX5_laysPlan_5 ?_
  refine g_istore C (L' := [(5, .int (nI 0)), (4, .int (nI 0)), (3, .int (nI n)), (0, .ref (ad w 44)), (1, .int (nI n)), (2, .int (nI 1))]) (by decide) rfl dX5_laysPlan_6 ?_
  refine g_iconst C (v := (nI 0)) (by decide) dX5_laysPlan_8 ?_
  refine g_istore C (L' := [(6, .int (nI 0)), (5, .int (nI 0)), (4, .int (nI 0)), (3, .int (nI n)), (0, .ref (ad w 44)), (1, .int (nI n)), (2, .int (nI 1))]) (by decide) rfl dX5_laysPlan_9 ?_
  have lp : ∀ (nf i : Nat) (lf : Nat) (du : Nat) (sm : Nat), 7 < i + nf → i ≤ 7 → (lf + du = mkP 1 n i ∧ du ≤ 1 ∧ lf ≤ 999999 ∧ sm = smP 1 n i ∧ (1 = 0 → du = 0)) → G z w 9 (us sg 52 (fw 0 (fun k => pI 1 (mkP 1 n k)) (sg 52) i)) tu 11 [(6, .int (nI i)), (5, .int (nI sm)), (4, .int (nI du)), (3, .int (nI lf)), (0, .ref (ad w 44)), (1, .int (nI n)), (2, .int (nI 1))] [] := by
    intro nf
    induction nf with
    | zero => intro i lf du sm h1 h2 hI; exact absurd h1 (by omega)
    | succ nf ih =>
      intro i lf du sm h1 h2 hI
      have hsm9 := smP_le (how := 1) (n := n) i
      refine g_iload C 0 rfl dX5_laysPlan_11 ?_
      refine g_bipush C (v := (nI 7)) (by decide) dX5_laysPlan_13 ?_
      refine g_icmpN_ge C i 7 (by omega) (by omega) (tgt := 123) (by decide) dX5_laysPlan_15 (fun h15 => ?_) (fun h15 => ?_)
      ·
        have hiN : i = 7 := by omega
        subst hiN
        refine g_iload C 1 rfl dX5_laysPlan_123 ?_
        exact g_iret C E dX5_laysPlan_125 (by rw [hI.2.2.2.1]) (Sq.us fun j hj => fw_in ⟨Nat.zero_le _, by rw [Nat.zero_add]; exact hj⟩) rfl
      ·
        refine g_iload_n C 3 rfl rfl dX5_laysPlan_18 ?_
        refine g_bipush C (v := (nI 10)) (by decide) dX5_laysPlan_19 ?_
        refine g_irem C (by decide) dX5_laysPlan_21 ?_
        refine g_top (y := (nI (lf % 10))) (pk_rem (show lf < 2 ^ 31 by omega) (by decide) (by decide)) ?_
        refine g_iload C 2 rfl dX5_laysPlan_22 ?_
        refine g_iadd C dX5_laysPlan_24 ?_
        refine g_top (y := (nI ((lf % 10) + du))) (nI_add (lf % 10) du) ?_
        refine g_istore C (L' := [(7, .int (nI ((lf % 10) + du))), (6, .int (nI i)), (5, .int (nI sm)), (4, .int (nI du)), (3, .int (nI lf)), (0, .ref (ad w 44)), (1, .int (nI n)), (2, .int (nI 1))]) (by decide) rfl dX5_laysPlan_25 ?_
        refine g_iload_n C 4 rfl rfl dX5_laysPlan_27 ?_
        refine g_bipush C (v := (nI 10)) (by decide) dX5_laysPlan_28 ?_
        refine g_idiv C (by decide) dX5_laysPlan_30 ?_
        refine g_top (y := (nI (lf / 10))) (pk_div (show lf < 2 ^ 31 by omega) (by decide) (by decide)) ?_
        refine g_istore_n C (L' := [(3, .int (nI (lf / 10))), (7, .int (nI ((lf % 10) + du))), (6, .int (nI i)), (5, .int (nI sm)), (4, .int (nI du)), (0, .ref (ad w 44)), (1, .int (nI n)), (2, .int (nI 1))]) rfl (by decide) rfl dX5_laysPlan_31 ?_
        refine g_iload_n C 7 rfl rfl dX5_laysPlan_32 ?_
        refine g_iconst C (v := (nI 1)) (by decide) dX5_laysPlan_33 ?_
        refine g_icmpN_ne C 1 1 (by omega) (by omega) (tgt := 47) (by decide) dX5_laysPlan_34 (fun h34 => absurd h34 (by decide)) (fun h34 => ?_)
        refine g_iload C 1 rfl dX5_laysPlan_37 ?_
        refine g_iconst C (v := (nI 5)) (by decide) dX5_laysPlan_39 ?_
        refine g_icmpN_le C ((lf % 10) + du) 5 (by omega) (by omega) (tgt := 47) (by decide) dX5_laysPlan_40 (fun h40 => ?_) (fun h40 => ?_)
        ·
          refine g_iconst C (v := (nI 0)) (by decide) dX5_laysPlan_47 ?_
          refine g_istore C (L' := [(8, .int (nI 0)), (3, .int (nI (lf / 10))), (7, .int (nI ((lf % 10) + du))), (6, .int (nI i)), (5, .int (nI sm)), (4, .int (nI du)), (0, .ref (ad w 44)), (1, .int (nI n)), (2, .int (nI 1))]) (by decide) rfl dX5_laysPlan_48 ?_
          refine g_iload C 0 rfl dX5_laysPlan_50 ?_
          refine g_if_eq C (tgt := 59) (by decide) dX5_laysPlan_52 (fun h52 => ?_) (fun h52 => absurd h52 (by decide))
          refine g_iconst C (v := (nI 0)) (by decide) dX5_laysPlan_59 ?_
          refine g_istore C (L' := [(4, .int (nI 0)), (8, .int (nI 0)), (3, .int (nI (lf / 10))), (7, .int (nI ((lf % 10) + du))), (6, .int (nI i)), (5, .int (nI sm)), (0, .ref (ad w 44)), (1, .int (nI n)), (2, .int (nI 1))]) (by decide) rfl dX5_laysPlan_60 ?_
          refine g_aload_n C 6 rfl rfl dX5_laysPlan_62 ?_
          refine g_getR C (j := 9) cls5 e_44 rfl (by decide) fl_X5_31 dX5_laysPlan_63 ?_
          refine g_iload C 4 rfl dX5_laysPlan_66 ?_
          refine g_iload C 1 rfl dX5_laysPlan_68 ?_
          refine g_if_eq C (tgt := 81) (by decide) dX5_laysPlan_70 (fun h70 => ?_) (fun h70 => absurd h70 (by decide))
          refine g_iload C 3 rfl dX5_laysPlan_81 ?_
          refine g_iastN C i e_52 (by omega) (by decide) dX5_laysPlan_83 ?_
          refine g_sgE (sg' := (us sg 52 (upd (fw 0 (fun k => pI 1 (mkP 1 n k)) (sg 52) i) i (nI ((lf % 10) + du))))) us_us ?_
          refine g_iload C 5 rfl dX5_laysPlan_84 ?_
          refine g_aload_n C 6 rfl rfl dX5_laysPlan_86 ?_
          refine g_getR C (j := 9) cls5 e_44 rfl (by decide) fl_X5_31 dX5_laysPlan_87 ?_
          refine g_iload C 4 rfl dX5_laysPlan_90 ?_
          refine g_ialdN C i e_52 (by omega) (by decide) dX5_laysPlan_92 ?_
          refine g_top (y := (nI ((lf % 10) + du))) (show upd _ _ _ _ = _ from upd_same) ?_
          refine g_if_ge C (tgt := 107) (by decide) dX5_laysPlan_93 (fun h93 => ?_) (fun h93 => absurd (nI_pos' (by omega)) h93)
          refine g_aload_n C 6 rfl rfl dX5_laysPlan_107 ?_
          refine g_getR C (j := 9) cls5 e_44 rfl (by decide) fl_X5_31 dX5_laysPlan_108 ?_
          refine g_iload C 4 rfl dX5_laysPlan_111 ?_
          refine g_ialdN C i e_52 (by omega) (by decide) dX5_laysPlan_113 ?_
          refine g_top (y := (nI ((lf % 10) + du))) (show upd _ _ _ _ = _ from upd_same) ?_
          refine g_iadd C dX5_laysPlan_114 ?_
          refine g_top (y := (nI (sm + ((lf % 10) + du)))) (nI_add sm ((lf % 10) + du)) ?_
          refine g_istore C (L' := [(5, .int (nI (sm + ((lf % 10) + du)))), (4, .int (nI 0)), (8, .int (nI 0)), (3, .int (nI (lf / 10))), (7, .int (nI ((lf % 10) + du))), (6, .int (nI i)), (0, .ref (ad w 44)), (1, .int (nI n)), (2, .int (nI 1))]) (by decide) rfl dX5_laysPlan_115 ?_
          refine g_iinc C (n := 1) (v := (nI (i + 1))) (L' := [(6, .int (nI (i + 1))), (5, .int (nI (sm + ((lf % 10) + du)))), (4, .int (nI 0)), (8, .int (nI 0)), (3, .int (nI (lf / 10))), (7, .int (nI ((lf % 10) + du))), (0, .ref (ad w 44)), (1, .int (nI n)), (2, .int (nI 1))]) 5 rfl (nI_add i 1) (by decide) rfl dX5_laysPlan_117 ?_
          refine g_goto C (tgt := 11) (by decide) dX5_laysPlan_120 ?_
          have hpl := plan_not (how := 1) (lf := lf) (du := du) (fun _ => by omega) (by omega)
          refine g_sub (L' := [(6, .int (nI (i + 1))), (5, .int (nI (sm + ((lf % 10) + du)))), (4, .int (nI 0)), (3, .int (nI (lf / 10))), (0, .ref (ad w 44)), (1, .int (nI n)), (2, .int (nI 1))]) [0, 1, 2, 4, 6, 7, 8] rfl ?_
          refine g_sgE (sg' := (us sg 52 (fw 0 (fun k => pI 1 (mkP 1 n k)) (sg 52) (i + 1)))) (congrArg (us sg 52) (fw_s0 (by show _ = pI 1 (mkP 1 n i); rw [← hI.1, hpl.1]))) ?_
          exact ih (i + 1) (lf / 10) 0 (sm + ((lf % 10) + du)) (by omega) (by omega) (⟨by show _ = nxP 1 (mkP 1 n i); rw [← hI.1]; exact hpl.2.2.symm, by omega, by omega, by show _ = smP 1 n i + aP 1 (mkP 1 n i); rw [← hI.1, hpl.2.1, ← hI.2.2.2.1], fun _ => rfl⟩)
        ·
          refine g_iconst C (v := (nI 1)) (by decide) dX5_laysPlan_43 ?_
          refine g_goto C (tgt := 48) (by decide) dX5_laysPlan_44 ?_
          refine g_istore C (L' := [(8, .int (nI 1)), (3, .int (nI (lf / 10))), (7, .int (nI ((lf % 10) + du))), (6, .int (nI i)), (5, .int (nI sm)), (4, .int (nI du)), (0, .ref (ad w 44)), (1, .int (nI n)), (2, .int (nI 1))]) (by decide) rfl dX5_laysPlan_48 ?_
          refine g_iload C 0 rfl dX5_laysPlan_50 ?_
          refine g_if_eq C (tgt := 59) (by decide) dX5_laysPlan_52 (fun h52 => absurd h52 (by decide)) (fun h52 => ?_)
          refine g_iconst C (v := (nI 1)) (by decide) dX5_laysPlan_55 ?_
          refine g_goto C (tgt := 60) (by decide) dX5_laysPlan_56 ?_
          refine g_istore C (L' := [(4, .int (nI 1)), (8, .int (nI 1)), (3, .int (nI (lf / 10))), (7, .int (nI ((lf % 10) + du))), (6, .int (nI i)), (5, .int (nI sm)), (0, .ref (ad w 44)), (1, .int (nI n)), (2, .int (nI 1))]) (by decide) rfl dX5_laysPlan_60 ?_
          refine g_aload_n C 6 rfl rfl dX5_laysPlan_62 ?_
          refine g_getR C (j := 9) cls5 e_44 rfl (by decide) fl_X5_31 dX5_laysPlan_63 ?_
          refine g_iload C 4 rfl dX5_laysPlan_66 ?_
          refine g_iload C 1 rfl dX5_laysPlan_68 ?_
          refine g_if_eq C (tgt := 81) (by decide) dX5_laysPlan_70 (fun h70 => absurd h70 (by decide)) (fun h70 => ?_)
          refine g_iload C 3 rfl dX5_laysPlan_73 ?_
          refine g_bipush C (v := (nI 10)) (by decide) dX5_laysPlan_75 ?_
          refine g_isub C dX5_laysPlan_77 ?_
          refine g_goto C (tgt := 83) (by decide) dX5_laysPlan_78 ?_
          refine g_iastN C i e_52 (by omega) (by decide) dX5_laysPlan_83 ?_
          refine g_sgE (sg' := (us sg 52 (upd (fw 0 (fun k => pI 1 (mkP 1 n k)) (sg 52) i) i ((nI ((lf % 10) + du)) - (nI 10))))) us_us ?_
          refine g_iload C 5 rfl dX5_laysPlan_84 ?_
          refine g_aload_n C 6 rfl rfl dX5_laysPlan_86 ?_
          refine g_getR C (j := 9) cls5 e_44 rfl (by decide) fl_X5_31 dX5_laysPlan_87 ?_
          refine g_iload C 4 rfl dX5_laysPlan_90 ?_
          refine g_ialdN C i e_52 (by omega) (by decide) dX5_laysPlan_92 ?_
          refine g_top (y := ((nI ((lf % 10) + du)) - (nI 10))) (show upd _ _ _ _ = _ from upd_same) ?_
          refine g_if_ge C (tgt := 107) (by decide) dX5_laysPlan_93 (fun h93 => ?_) (fun h93 => ?_)
          ·
            refine g_aload_n C 6 rfl rfl dX5_laysPlan_107 ?_
            refine g_getR C (j := 9) cls5 e_44 rfl (by decide) fl_X5_31 dX5_laysPlan_108 ?_
            refine g_iload C 4 rfl dX5_laysPlan_111 ?_
            refine g_ialdN C i e_52 (by omega) (by decide) dX5_laysPlan_113 ?_
            refine g_top (y := ((nI ((lf % 10) + du)) - (nI 10))) (show upd _ _ _ _ = _ from upd_same) ?_
            have hfg : lf % 10 + du = 10 := by
              have h9 := (ng_nI (lf % 10 + du) (by omega) h40).1
              have h8 : ¬ (nI (lf % 10 + du) - nI 10 < 0) := fun q => absurd h93 (Int32.not_le.mpr q)
              have h7 : ¬ (lf % 10 + du < 10) := fun q => h8 (h9.mpr q)
              omega
            refine g_top (y := nI (10 - (lf % 10 + du))) (by rw [hfg]; decide) ?_
            refine g_iadd C dX5_laysPlan_114 ?_
            refine g_top (y := (nI (sm + (10 - (lf % 10 + du))))) (nI_add sm (10 - (lf % 10 + du))) ?_
            refine g_istore C (L' := [(5, .int (nI (sm + (10 - (lf % 10 + du))))), (4, .int (nI 1)), (8, .int (nI 1)), (3, .int (nI (lf / 10))), (7, .int (nI ((lf % 10) + du))), (6, .int (nI i)), (0, .ref (ad w 44)), (1, .int (nI n)), (2, .int (nI 1))]) (by decide) rfl dX5_laysPlan_115 ?_
            refine g_iinc C (n := 1) (v := (nI (i + 1))) (L' := [(6, .int (nI (i + 1))), (5, .int (nI (sm + (10 - (lf % 10 + du))))), (4, .int (nI 1)), (8, .int (nI 1)), (3, .int (nI (lf / 10))), (7, .int (nI ((lf % 10) + du))), (0, .ref (ad w 44)), (1, .int (nI n)), (2, .int (nI 1))]) 5 rfl (nI_add i 1) (by decide) rfl dX5_laysPlan_117 ?_
            refine g_goto C (tgt := 11) (by decide) dX5_laysPlan_120 ?_
            have hpl := plan_ov h40 hI.2.1
            refine g_sub (L' := [(6, .int (nI (i + 1))), (5, .int (nI (sm + (10 - (lf % 10 + du))))), (4, .int (nI 1)), (3, .int (nI (lf / 10))), (0, .ref (ad w 44)), (1, .int (nI n)), (2, .int (nI 1))]) [0, 1, 2, 4, 6, 7, 8] rfl ?_
            refine g_sgE (sg' := (us sg 52 (fw 0 (fun k => pI 1 (mkP 1 n k)) (sg 52) (i + 1)))) (congrArg (us sg 52) (fw_s0 (by show _ = pI 1 (mkP 1 n i); rw [← hI.1, hpl.1]))) ?_
            exact ih (i + 1) (lf / 10) 1 (sm + (10 - (lf % 10 + du))) (by omega) (by omega) (⟨by show _ = nxP 1 (mkP 1 n i); rw [← hI.1]; exact hpl.2.2.symm, Nat.le_refl _, by omega, by show _ = smP 1 n i + aP 1 (mkP 1 n i); rw [← hI.1, hpl.2.1, ← hI.2.2.2.1], fun q => absurd q (by decide)⟩)
          ·
            refine g_aload_n C 6 rfl rfl dX5_laysPlan_96 ?_
            refine g_getR C (j := 9) cls5 e_44 rfl (by decide) fl_X5_31 dX5_laysPlan_97 ?_
            refine g_iload C 4 rfl dX5_laysPlan_100 ?_
            refine g_ialdN C i e_52 (by omega) (by decide) dX5_laysPlan_102 ?_
            refine g_top (y := ((nI ((lf % 10) + du)) - (nI 10))) (show upd _ _ _ _ = _ from upd_same) ?_
            refine g_ineg C dX5_laysPlan_103 ?_
            refine g_top (y := nI (10 - (lf % 10 + du))) (ng_nI _ (by omega) h40).2.1 ?_
            refine g_goto C (tgt := 114) (by decide) dX5_laysPlan_104 ?_
            refine g_iadd C dX5_laysPlan_114 ?_
            refine g_top (y := (nI (sm + (10 - (lf % 10 + du))))) (nI_add sm (10 - (lf % 10 + du))) ?_
            refine g_istore C (L' := [(5, .int (nI (sm + (10 - (lf % 10 + du))))), (4, .int (nI 1)), (8, .int (nI 1)), (3, .int (nI (lf / 10))), (7, .int (nI ((lf % 10) + du))), (6, .int (nI i)), (0, .ref (ad w 44)), (1, .int (nI n)), (2, .int (nI 1))]) (by decide) rfl dX5_laysPlan_115 ?_
            refine g_iinc C (n := 1) (v := (nI (i + 1))) (L' := [(6, .int (nI (i + 1))), (5, .int (nI (sm + (10 - (lf % 10 + du))))), (4, .int (nI 1)), (8, .int (nI 1)), (3, .int (nI (lf / 10))), (7, .int (nI ((lf % 10) + du))), (0, .ref (ad w 44)), (1, .int (nI n)), (2, .int (nI 1))]) 5 rfl (nI_add i 1) (by decide) rfl dX5_laysPlan_117 ?_
            refine g_goto C (tgt := 11) (by decide) dX5_laysPlan_120 ?_
            have hpl := plan_ov h40 hI.2.1
            refine g_sub (L' := [(6, .int (nI (i + 1))), (5, .int (nI (sm + (10 - (lf % 10 + du))))), (4, .int (nI 1)), (3, .int (nI (lf / 10))), (0, .ref (ad w 44)), (1, .int (nI n)), (2, .int (nI 1))]) [0, 1, 2, 4, 6, 7, 8] rfl ?_
            refine g_sgE (sg' := (us sg 52 (fw 0 (fun k => pI 1 (mkP 1 n k)) (sg 52) (i + 1)))) (congrArg (us sg 52) (fw_s0 (by show _ = pI 1 (mkP 1 n i); rw [← hI.1, hpl.1]))) ?_
            exact ih (i + 1) (lf / 10) 1 (sm + (10 - (lf % 10 + du))) (by omega) (by omega) (⟨by show _ = nxP 1 (mkP 1 n i); rw [← hI.1]; exact hpl.2.2.symm, Nat.le_refl _, by omega, by show _ = smP 1 n i + aP 1 (mkP 1 n i); rw [← hI.1, hpl.2.1, ← hI.2.2.2.1], fun q => absurd q (by decide)⟩)
  refine g_sgE (sg' := (us sg 52 (fw 0 (fun k => pI 1 (mkP 1 n k)) (sg 52) 0))) (by rw [fw_0, us_id]) ?_
  exact lp (7 + 1) 0 n 0 0 (by omega) (by omega) (⟨rfl, by omega, hn, rfl, fun _ => rfl⟩)
set_option maxRecDepth 100000 in
set_option maxHeartbeats 4000000 in
theorem c_X5_doesTimes_0 (w : GW) (tu : Int64) (sg : Sg) (n : Nat) (hn : n ≤ 999999) (hok : ROk (sg 45)) : Kt w yX5_doesTimes cX5_doesTimes 9 (some .int) 2 [.ref (ad w 44), .int (nI n), .int (nI 0)] sg tu (some (.int (nI (smP 0 n 7)))) (us (us (us sg 52 (fun k => pI 0 (mkP 0 n k))) 50 (fun d => whX (clR (sg 45) (6 + d)) (dN (clR (sg 45)) d + 1))) 45 (muR 0 n (gN (sg 45)) 6 (clR (sg 45)))) tu := by
  refine Kt.of2 RX5 rfl [(0, .ref (ad w 44)), (1, .int (nI n)), (2, .int (nI 0))] (by decide) rfl (Nat.le_of_ble_eq_true rfl) (fun z C E => ?_)
  refine g_iload_n C 1 rfl rfl dX5_doesTimes_0 ?_
  refine g_i2l C dX5_doesTimes_1 ?_
  refine g_lconst C (v := 0) (by decide) dX5_doesTimes_2 ?_
  refine g_ldc2 C cn_X5_77 dX5_doesTimes_3 ?_
  refine g_callS1 [] C (c_X5_in_t w tu sg (Int32.toInt64 (nI n)) 0 999999 (in_ok (n := 999999) (by omega) (by decide))) mt_X5_in ml_X5_53 st_X5_in (by decide) rfl (Nat.le_of_ble_eq_true rfl) dX5_doesTimes_6 ?_
  refine g_eq (L' := [(0, .ref (ad w 44)), (1, .int (nI n)), (2, .int (nI 0))]) (S' := [.int (nI 1)]) rfl rfl rfl rfl ?_
  refine g_if_eq C (tgt := 22) (by decide) dX5_doesTimes_9 (fun h9 => absurd h9 (by decide)) (fun h9 => ?_)
  refine g_iload_n C 2 rfl rfl dX5_doesTimes_12 ?_
  refine g_i2l C dX5_doesTimes_13 ?_
  refine g_lconst C (v := 0) (by decide) dX5_doesTimes_14 ?_
  refine g_lconst C (v := 1) (by decide) dX5_doesTimes_15 ?_
  refine g_callS1 [] C (c_X5_in_t w tu sg (Int32.toInt64 (nI 0)) 0 1 (in_ok (n := 1) (by omega) (by decide))) mt_X5_in ml_X5_53 st_X5_in (by decide) rfl (Nat.le_of_ble_eq_true rfl) dX5_doesTimes_16 ?_
  refine g_eq (L' := [(0, .ref (ad w 44)), (1, .int (nI n)), (2, .int (nI 0))]) (S' := [.int (nI 1)]) rfl rfl rfl rfl ?_
  refine g_if_ne C (tgt := 25) (by decide) dX5_doesTimes_19 (fun h19 => ?_) (fun h19 => absurd h19 (by decide))
  refine g_aload_n C 0 rfl rfl dX5_doesTimes_25 ?_
  refine g_callV1 [] C (c_X5_clearsAll w tu sg  ) mt_X5_clearsAll e_44 rfl ml_X5_79 im_X5_clearsAll se_X5_clearsAll (by decide) rfl (Nat.le_of_ble_eq_true rfl) dX5_doesTimes_26 ?_
  refine g_eq (sg' := (us sg 45 (fw 24 (fun _ => nI 0) (fw 12 (fun _ => nI 0) (sg 45) 12) 7))) (L' := [(0, .ref (ad w 44)), (1, .int (nI n)), (2, .int (nI 0))]) (S' := [.int (czX (sg 45) (fun _ => nI 0) 12 12)]) rfl rfl rfl rfl ?_
  refine g_sgE (sg' := (us sg 45 (clR (sg 45)))) rfl ?_
  refine g_istore_n C (L' := [(3, .int (czX (sg 45) (fun _ => nI 0) 12 12)), (0, .ref (ad w 44)), (1, .int (nI n)), (2, .int (nI 0))]) rfl (by decide) rfl dX5_doesTimes_29 ?_
  refine g_aload_n C 1 rfl rfl dX5_doesTimes_30 ?_
  refine g_iload_n C 2 rfl rfl dX5_doesTimes_31 ?_
  refine g_iload_n C 3 rfl rfl dX5_doesTimes_32 ?_
  refine g_callV1 [] C (c_X5_laysPlan_0 w tu (us sg 45 (clR (sg 45))) n (by omega)) mt_X5_laysPlan e_44 rfl ml_X5_83 im_X5_laysPlan se_X5_laysPlan (by decide) rfl (Nat.le_of_ble_eq_true rfl) dX5_doesTimes_33 ?_
  refine g_eq (sg' := (us (us sg 45 (clR (sg 45))) 52 (fun k => pI 0 (mkP 0 n k)))) (L' := [(3, .int (czX (sg 45) (fun _ => nI 0) 12 12)), (0, .ref (ad w 44)), (1, .int (nI n)), (2, .int (nI 0))]) (S' := [.int (nI (smP 0 n 7))]) rfl rfl rfl rfl ?_
  refine g_istore C (L' := [(4, .int (nI (smP 0 n 7))), (3, .int (czX (sg 45) (fun _ => nI 0) 12 12)), (0, .ref (ad w 44)), (1, .int (nI n)), (2, .int (nI 0))]) (by decide) rfl dX5_doesTimes_36 ?_
  refine g_aload_n C 2 rfl rfl dX5_doesTimes_38 ?_
  refine g_callV0 [] C (c_X5_laysGives w tu (us (us sg 45 (clR (sg 45))) 52 (fun k => pI 0 (mkP 0 n k)))  (dN (clR (sg 45))) (clR_ok hok).1) mt_X5_laysGives e_44 rfl ml_X5_67 im_X5_laysGives se_X5_laysGives (by decide) rfl (Nat.le_of_ble_eq_true rfl) dX5_doesTimes_39 ?_
  refine g_eq (sg' := (us (us (us sg 45 (clR (sg 45))) 52 (fun k => pI 0 (mkP 0 n k))) 50 (fun d => whX ((clR (sg 45)) (6 + d)) ((dN (clR (sg 45))) d + 1)))) (L' := [(4, .int (nI (smP 0 n 7))), (3, .int (czX (sg 45) (fun _ => nI 0) 12 12)), (0, .ref (ad w 44)), (1, .int (nI n)), (2, .int (nI 0))]) (S' := []) rfl rfl rfl rfl ?_
  refine g_iconst C (v := (nI 0)) (by decide) dX5_doesTimes_42 ?_
  refine g_istore C (L' := [(5, .int (nI 0)), (4, .int (nI (smP 0 n 7))), (3, .int (czX (sg 45) (fun _ => nI 0) 12 12)), (0, .ref (ad w 44)), (1, .int (nI n)), (2, .int (nI 0))]) (by decide) rfl dX5_doesTimes_43 ?_
  have lp : ∀ (nf i : Nat), 6 < i + nf → i ≤ 6 → (True) → G z w 9 (us (us (us sg 52 (fun k => pI 0 (mkP 0 n k))) 50 (fun d => whX (clR (sg 45) (6 + d)) (dN (clR (sg 45)) d + 1))) 45 (muR 0 n (gN (sg 45)) i (clR (sg 45)))) tu 45 [(5, .int (nI i)), (4, .int (nI (smP 0 n 7))), (3, .int (czX (sg 45) (fun _ => nI 0) 12 12)), (0, .ref (ad w 44)), (1, .int (nI n)), (2, .int (nI 0))] [] := by
    intro nf
    induction nf with
    | zero => intro i  h1 h2 hI; exact absurd h1 (by omega)
    | succ nf ih =>
      intro i  h1 h2 hI
      refine g_iload C 0 rfl dX5_doesTimes_45 ?_
      refine g_bipush C (v := (nI 6)) (by decide) dX5_doesTimes_47 ?_
      refine g_iload_n C 5 rfl rfl dX5_doesTimes_49 ?_
      refine g_iadd C dX5_doesTimes_50 ?_
      refine g_top (y := (nI 6)) (nI_add 6 0) ?_
      refine g_icmpN_ge C i 6 (by omega) (by omega) (tgt := 119) (by decide) dX5_doesTimes_51 (fun h51 => ?_) (fun h51 => ?_)
      ·
        have hiN : i = 6 := by omega
        subst hiN
        refine g_iload C 1 rfl dX5_doesTimes_119 ?_
        exact g_iret C E dX5_doesTimes_121 rfl Sq.rf rfl
      ·
        refine g_aload_n C 3 rfl rfl dX5_doesTimes_54 ?_
        refine g_getR C (j := 0) cls5 e_44 rfl (by decide) fl_X5_7 dX5_doesTimes_55 ?_
        refine g_bipush C (v := (nI 31)) (by decide) dX5_doesTimes_58 ?_
        refine g_iload C 0 rfl dX5_doesTimes_60 ?_
        refine g_iastN C 31 e_45 (by decide) (by decide) dX5_doesTimes_62 ?_
        refine g_sgE (sg' := (us (us (us sg 52 (fun k => pI 0 (mkP 0 n k))) 50 (fun d => whX (clR (sg 45) (6 + d)) (dN (clR (sg 45)) d + 1))) 45 (upd (muR 0 n (gN (sg 45)) i (clR (sg 45))) 31 (nI i)))) us_us ?_
        refine g_aload_n C 3 rfl rfl dX5_doesTimes_63 ?_
        refine g_getR C (j := 9) cls5 e_44 rfl (by decide) fl_X5_31 dX5_doesTimes_64 ?_
        refine g_iload C 0 rfl dX5_doesTimes_67 ?_
        refine g_ialdN C i e_52 (by omega) (by decide) dX5_doesTimes_69 ?_
        refine g_top (y := ((fun k => pI 0 (mkP 0 n k)) i)) rfl ?_
        have hov : ¬ ((0 : Nat) = 1 ∧ 5 < mkP 0 n i % 10) := fun q => absurd q.1 (by decide)
        refine g_top (y := nI (mkP 0 n i % 10)) (if_neg hov) ?_
        refine g_if_ge C (tgt := 77) (by decide) dX5_doesTimes_70 (fun h70 => ?_) (fun h70 => absurd (nI_pos' (by omega)) h70)
        refine g_iconst C (v := (nI 1)) (by decide) dX5_doesTimes_77 ?_
        refine g_istore C (L' := [(6, .int (nI 1)), (5, .int (nI i)), (4, .int (nI (smP 0 n 7))), (3, .int (czX (sg 45) (fun _ => nI 0) 12 12)), (0, .ref (ad w 44)), (1, .int (nI n)), (2, .int (nI 0))]) (by decide) rfl dX5_doesTimes_78 ?_
        refine g_iload C 0 rfl dX5_doesTimes_80 ?_
        refine g_aload_n C 4 rfl rfl dX5_doesTimes_82 ?_
        refine g_getR C (j := 9) cls5 e_44 rfl (by decide) fl_X5_31 dX5_doesTimes_83 ?_
        refine g_iload C 1 rfl dX5_doesTimes_86 ?_
        refine g_ialdN C i e_52 (by omega) (by decide) dX5_doesTimes_88 ?_
        refine g_top (y := ((fun k => pI 0 (mkP 0 n k)) i)) rfl ?_
        refine g_top (y := nI (mkP 0 n i % 10)) (if_neg hov) ?_
        refine g_imul C dX5_doesTimes_89 ?_
        refine g_top (y := (nI (mkP 0 n i % 10))) (by rw [pk_mul, Nat.one_mul]) ?_
        refine g_istore C (L' := [(7, .int (nI (mkP 0 n i % 10))), (6, .int (nI 1)), (5, .int (nI i)), (4, .int (nI (smP 0 n 7))), (3, .int (czX (sg 45) (fun _ => nI 0) 12 12)), (0, .ref (ad w 44)), (1, .int (nI n)), (2, .int (nI 0))]) (by decide) rfl dX5_doesTimes_90 ?_
        have hF0 : ROk (upd (muR 0 n (gN (sg 45)) i (clR (sg 45))) 31 (nI i)) := sh_ok (muR_ok (clR_ok hok) (fun _ h => (gN_ok hok h).2) i (by omega)) (by omega)
        have lpi : ∀ (r t : Nat), t + r = (mkP 0 n i % 10) → G z w 9 (us (us (us sg 52 (fun k => pI 0 (mkP 0 n k))) 50 (fun d => whX (clR (sg 45) (6 + d)) (dN (clR (sg 45)) d + 1))) 45 (itR true (nI 1) (gN (sg 45)) t (upd (muR 0 n (gN (sg 45)) i (clR (sg 45))) 31 (nI i)))) tu 92 [(7, .int (nI r)), (6, .int (nI 1)), (5, .int (nI i)), (4, .int (nI (smP 0 n 7))), (3, .int (czX (sg 45) (fun _ => nI 0) 12 12)), (0, .ref (ad w 44)), (1, .int (nI n)), (2, .int (nI 0))] [] := by
          intro r
          induction r with
          | zero =>
            intro t ht
            refine g_iload C 0 rfl dX5_doesTimes_92 ?_
            refine g_if_le C (tgt := 113) (by decide) dX5_doesTimes_94 (fun h94 => ?_) (fun h94 => absurd h94 (by decide))
            refine g_iinc C (n := 1) (v := (nI (i + 1))) (L' := [(5, .int (nI (i + 1))), (7, .int (nI 0)), (6, .int (nI 1)), (4, .int (nI (smP 0 n 7))), (3, .int (czX (sg 45) (fun _ => nI 0) 12 12)), (0, .ref (ad w 44)), (1, .int (nI n)), (2, .int (nI 0))]) 2 rfl (nI_add i 1) (by decide) rfl dX5_doesTimes_113 ?_
            refine g_goto C (tgt := 45) (by decide) dX5_doesTimes_116 ?_
            have htA : t = (mkP 0 n i % 10) := by omega
            subst htA
            refine g_sub (L' := [(5, .int (nI (i + 1))), (4, .int (nI (smP 0 n 7))), (3, .int (czX (sg 45) (fun _ => nI 0) 12 12)), (0, .ref (ad w 44)), (1, .int (nI n)), (2, .int (nI 0))]) [0, 3, 4, 5, 6, 7] rfl ?_
            refine g_sgE (sg' := (us (us (us sg 52 (fun k => pI 0 (mkP 0 n k))) 50 (fun d => whX (clR (sg 45) (6 + d)) (dN (clR (sg 45)) d + 1))) 45 (muR 0 n (gN (sg 45)) (i + 1) (clR (sg 45))))) (congrArg (us _ 45) (muR_no hov).symm) ?_
            exact ih (i + 1)  (by omega) (by omega) trivial
          | succ r ihr =>
            intro t ht
            refine g_iload C 0 rfl dX5_doesTimes_92 ?_
            refine g_if_le C (tgt := 113) (by decide) dX5_doesTimes_94 (fun h94 => absurd h94 (nI_nle (by omega) (by omega))) (fun h94 => ?_)
            refine g_aload_n C 5 rfl rfl dX5_doesTimes_97 ?_
            refine g_iload C 1 rfl dX5_doesTimes_98 ?_
            refine g_iload C 1 rfl dX5_doesTimes_100 ?_
            refine g_callV1 [] C (c_X5_turnsOnce_up w tu (us (us (us sg 52 (fun k => pI 0 (mkP 0 n k))) 50 (fun d => whX (clR (sg 45) (6 + d)) (dN (clR (sg 45)) d + 1))) 45 (itR true (nI 1) (gN (sg 45)) t (upd (muR 0 n (gN (sg 45)) i (clR (sg 45))) 31 (nI i)))) (nI 1) (gN (sg 45)) (itR_ok hF0 (fun _ h => (gN_ok hok h).2) t) (fun d h => by show whX (clR (sg 45) (6 + d)) (dN (clR (sg 45)) d + 1) = _; unfold dN; rw [clR_lo (by omega), clR_lo (by omega)]; exact (gN_ok hok h).1) (fun _ h => (gN_ok hok h).2)) mt_X5_turnsOnce e_44 rfl ml_X5_70 im_X5_turnsOnce se_X5_turnsOnce (by decide) rfl (Nat.le_of_ble_eq_true rfl) dX5_doesTimes_102 ?_
            refine g_eq (sg' := (us (us (us (us sg 52 (fun k => pI 0 (mkP 0 n k))) 50 (fun d => whX (clR (sg 45) (6 + d)) (dN (clR (sg 45)) d + 1))) 45 (itR true (nI 1) (gN (sg 45)) t (upd (muR 0 n (gN (sg 45)) i (clR (sg 45))) 31 (nI i)))) 45 (tR true (nI 1) (gN (sg 45)) (itR true (nI 1) (gN (sg 45)) t (upd (muR 0 n (gN (sg 45)) i (clR (sg 45))) 31 (nI i)))))) (L' := [(7, .int (nI (r + 1))), (6, .int (nI 1)), (5, .int (nI i)), (4, .int (nI (smP 0 n 7))), (3, .int (czX (sg 45) (fun _ => nI 0) 12 12)), (0, .ref (ad w 44)), (1, .int (nI n)), (2, .int (nI 0))]) (S' := [.int (bI (blP true (wN (itR true (nI 1) (gN (sg 45)) t (upd (muR 0 n (gN (sg 45)) i (clR (sg 45))) 31 (nI i)))) (gN (sg 45)) (sN (itR true (nI 1) (gN (sg 45)) t (upd (muR 0 n (gN (sg 45)) i (clR (sg 45))) 31 (nI i)))) (sN (itR true (nI 1) (gN (sg 45)) t (upd (muR 0 n (gN (sg 45)) i (clR (sg 45))) 31 (nI i))) + 5 + reN (itR true (nI 1) (gN (sg 45)) t (upd (muR 0 n (gN (sg 45)) i (clR (sg 45))) 31 (nI i))))))]) rfl rfl rfl rfl ?_
            refine g_istore C (L' := [(8, .int (bI (blP true (wN (itR true (nI 1) (gN (sg 45)) t (upd (muR 0 n (gN (sg 45)) i (clR (sg 45))) 31 (nI i)))) (gN (sg 45)) (sN (itR true (nI 1) (gN (sg 45)) t (upd (muR 0 n (gN (sg 45)) i (clR (sg 45))) 31 (nI i)))) (sN (itR true (nI 1) (gN (sg 45)) t (upd (muR 0 n (gN (sg 45)) i (clR (sg 45))) 31 (nI i))) + 5 + reN (itR true (nI 1) (gN (sg 45)) t (upd (muR 0 n (gN (sg 45)) i (clR (sg 45))) 31 (nI i))))))), (7, .int (nI (r + 1))), (6, .int (nI 1)), (5, .int (nI i)), (4, .int (nI (smP 0 n 7))), (3, .int (czX (sg 45) (fun _ => nI 0) 12 12)), (0, .ref (ad w 44)), (1, .int (nI n)), (2, .int (nI 0))]) (by decide) rfl dX5_doesTimes_105 ?_
            refine g_iinc C (n := -1) (v := ((nI (r + 1)) + (-1))) (L' := [(7, .int ((nI (r + 1)) + (-1))), (8, .int (bI (blP true (wN (itR true (nI 1) (gN (sg 45)) t (upd (muR 0 n (gN (sg 45)) i (clR (sg 45))) 31 (nI i)))) (gN (sg 45)) (sN (itR true (nI 1) (gN (sg 45)) t (upd (muR 0 n (gN (sg 45)) i (clR (sg 45))) 31 (nI i)))) (sN (itR true (nI 1) (gN (sg 45)) t (upd (muR 0 n (gN (sg 45)) i (clR (sg 45))) 31 (nI i))) + 5 + reN (itR true (nI 1) (gN (sg 45)) t (upd (muR 0 n (gN (sg 45)) i (clR (sg 45))) 31 (nI i))))))), (6, .int (nI 1)), (5, .int (nI i)), (4, .int (nI (smP 0 n 7))), (3, .int (czX (sg 45) (fun _ => nI 0) 12 12)), (0, .ref (ad w 44)), (1, .int (nI n)), (2, .int (nI 0))]) 1 rfl rfl (by decide) rfl dX5_doesTimes_107 ?_
            refine g_goto C (tgt := 92) (by decide) dX5_doesTimes_110 ?_
            refine g_sub (L' := [(7, .int ((nI (r + 1)) + (-1))), (6, .int (nI 1)), (5, .int (nI i)), (4, .int (nI (smP 0 n 7))), (3, .int (czX (sg 45) (fun _ => nI 0) 12 12)), (0, .ref (ad w 44)), (1, .int (nI n)), (2, .int (nI 0))]) [0, 2, 3, 4, 5, 6, 7, 8] rfl ?_
            refine g_eq (L' := [(7, .int (nI r)), (6, .int (nI 1)), (5, .int (nI i)), (4, .int (nI (smP 0 n 7))), (3, .int (czX (sg 45) (fun _ => nI 0) 12 12)), (0, .ref (ad w 44)), (1, .int (nI n)), (2, .int (nI 0))]) rfl rfl (by rw [pk_m1]) rfl ?_
            refine g_sgE (sg' := (us (us (us sg 52 (fun k => pI 0 (mkP 0 n k))) 50 (fun d => whX (clR (sg 45) (6 + d)) (dN (clR (sg 45)) d + 1))) 45 (itR true (nI 1) (gN (sg 45)) (t + 1) (upd (muR 0 n (gN (sg 45)) i (clR (sg 45))) 31 (nI i))))) us_us ?_
            exact ihr (t + 1) (by omega)
        refine g_sub (L' := [(7, .int (nI (mkP 0 n i % 10))), (6, .int (nI 1)), (5, .int (nI i)), (4, .int (nI (smP 0 n 7))), (3, .int (czX (sg 45) (fun _ => nI 0) 12 12)), (0, .ref (ad w 44)), (1, .int (nI n)), (2, .int (nI 0))]) [0, 1, 2, 3, 4, 5, 6, 7] rfl ?_
        refine g_sgE (sg' := (us (us (us sg 52 (fun k => pI 0 (mkP 0 n k))) 50 (fun d => whX (clR (sg 45) (6 + d)) (dN (clR (sg 45)) d + 1))) 45 (itR true (nI 1) (gN (sg 45)) 0 (upd (muR 0 n (gN (sg 45)) i (clR (sg 45))) 31 (nI i))))) rfl ?_
        exact lpi (mkP 0 n i % 10) 0 (Nat.zero_add _)
  refine g_sgE (sg' := (us (us (us sg 52 (fun k => pI 0 (mkP 0 n k))) 50 (fun d => whX (clR (sg 45) (6 + d)) (dN (clR (sg 45)) d + 1))) 45 (muR 0 n (gN (sg 45)) 0 (clR (sg 45))))) (us_rot (by decide) (by decide)) ?_
  refine g_sub (L' := [(5, .int (nI 0)), (4, .int (nI (smP 0 n 7))), (3, .int (czX (sg 45) (fun _ => nI 0) 12 12)), (0, .ref (ad w 44)), (1, .int (nI n)), (2, .int (nI 0))]) [0, 1, 2, 3, 4, 5] rfl ?_
  exact lp (6 + 1) 0  (by omega) (by omega) trivial
set_option maxRecDepth 100000 in
set_option maxHeartbeats 4000000 in
theorem c_X5_doesTimes_bad (w : GW) (tu : Int64) (sg : Sg) (x : Int32) (v : Int32) (h : ¬ ((0 ≤ Int32.toInt64 x ∧ Int32.toInt64 x ≤ 999999) ∧ (0 ≤ Int32.toInt64 v ∧ Int32.toInt64 v ≤ 1))) : Kt w yX5_doesTimes cX5_doesTimes 9 (some .int) 1 [.ref (ad w 44), .int x, .int v] sg tu (some (.int (-2))) sg tu := by
  refine Kt.of2 RX5 rfl [(0, .ref (ad w 44)), (1, .int x), (2, .int v)] (by decide) rfl (Nat.le_of_ble_eq_true rfl) (fun z C E => ?_)
  refine g_iload_n C 1 rfl rfl dX5_doesTimes_0 ?_
  refine g_i2l C dX5_doesTimes_1 ?_
  refine g_lconst C (v := 0) (by decide) dX5_doesTimes_2 ?_
  refine g_ldc2 C cn_X5_77 dX5_doesTimes_3 ?_
  refine g_callS1 [] C (c_X5_in w tu sg (Int32.toInt64 x) 0 999999 ) mt_X5_in ml_X5_53 st_X5_in (by decide) rfl (Nat.le_of_ble_eq_true rfl) dX5_doesTimes_6 ?_
  refine g_eq (L' := [(0, .ref (ad w 44)), (1, .int x), (2, .int v)]) (S' := [.int (bI (0 ≤ (Int32.toInt64 x) ∧ (Int32.toInt64 x) ≤ 999999))]) rfl rfl rfl rfl ?_
  refine g_bif_eq C (tgt := 22) (by decide) dX5_doesTimes_9 (fun h9 => ?_) (fun h9 => ?_)
  ·
    refine g_bipush C (v := (-2)) (by decide) dX5_doesTimes_22 ?_
    exact g_iret C E dX5_doesTimes_24 rfl Sq.rf rfl
  ·
    refine g_iload_n C 2 rfl rfl dX5_doesTimes_12 ?_
    refine g_i2l C dX5_doesTimes_13 ?_
    refine g_lconst C (v := 0) (by decide) dX5_doesTimes_14 ?_
    refine g_lconst C (v := 1) (by decide) dX5_doesTimes_15 ?_
    refine g_callS1 [] C (c_X5_in w tu sg (Int32.toInt64 v) 0 1 ) mt_X5_in ml_X5_53 st_X5_in (by decide) rfl (Nat.le_of_ble_eq_true rfl) dX5_doesTimes_16 ?_
    refine g_eq (L' := [(0, .ref (ad w 44)), (1, .int x), (2, .int v)]) (S' := [.int (bI (0 ≤ (Int32.toInt64 v) ∧ (Int32.toInt64 v) ≤ 1))]) rfl rfl rfl rfl ?_
    refine g_bif_ne C (tgt := 25) (by decide) dX5_doesTimes_19 (fun h19 => absurd ⟨h9, h19⟩ h) (fun h19 => ?_)
    refine g_bipush C (v := (-2)) (by decide) dX5_doesTimes_22 ?_
    exact g_iret C E dX5_doesTimes_24 rfl Sq.rf rfl
set_option maxRecDepth 100000 in
set_option maxHeartbeats 4000000 in
theorem c_X5_doesTimes_1 (w : GW) (tu : Int64) (sg : Sg) (n : Nat) (hn : n ≤ 999999) (hok : ROk (sg 45)) : Kt w yX5_doesTimes cX5_doesTimes 9 (some .int) 2 [.ref (ad w 44), .int (nI n), .int (nI 1)] sg tu (some (.int (nI (smP 1 n 7)))) (us (us (us sg 52 (fun k => pI 1 (mkP 1 n k))) 50 (fun d => whX (clR (sg 45) (6 + d)) (dN (clR (sg 45)) d + 1))) 45 (muR 1 n (gN (sg 45)) 7 (clR (sg 45)))) tu := by
  refine Kt.of2 RX5 rfl [(0, .ref (ad w 44)), (1, .int (nI n)), (2, .int (nI 1))] (by decide) rfl (Nat.le_of_ble_eq_true rfl) (fun z C E => ?_)
  refine g_iload_n C 1 rfl rfl dX5_doesTimes_0 ?_
  refine g_i2l C dX5_doesTimes_1 ?_
  refine g_lconst C (v := 0) (by decide) dX5_doesTimes_2 ?_
  refine g_ldc2 C cn_X5_77 dX5_doesTimes_3 ?_
  refine g_callS1 [] C (c_X5_in_t w tu sg (Int32.toInt64 (nI n)) 0 999999 (in_ok (n := 999999) (by omega) (by decide))) mt_X5_in ml_X5_53 st_X5_in (by decide) rfl (Nat.le_of_ble_eq_true rfl) dX5_doesTimes_6 ?_
  refine g_eq (L' := [(0, .ref (ad w 44)), (1, .int (nI n)), (2, .int (nI 1))]) (S' := [.int (nI 1)]) rfl rfl rfl rfl ?_
  refine g_if_eq C (tgt := 22) (by decide) dX5_doesTimes_9 (fun h9 => absurd h9 (by decide)) (fun h9 => ?_)
  refine g_iload_n C 2 rfl rfl dX5_doesTimes_12 ?_
  refine g_i2l C dX5_doesTimes_13 ?_
  refine g_lconst C (v := 0) (by decide) dX5_doesTimes_14 ?_
  refine g_lconst C (v := 1) (by decide) dX5_doesTimes_15 ?_
  refine g_callS1 [] C (c_X5_in_t w tu sg (Int32.toInt64 (nI 1)) 0 1 (in_ok (n := 1) (by omega) (by decide))) mt_X5_in ml_X5_53 st_X5_in (by decide) rfl (Nat.le_of_ble_eq_true rfl) dX5_doesTimes_16 ?_
  refine g_eq (L' := [(0, .ref (ad w 44)), (1, .int (nI n)), (2, .int (nI 1))]) (S' := [.int (nI 1)]) rfl rfl rfl rfl ?_
  refine g_if_ne C (tgt := 25) (by decide) dX5_doesTimes_19 (fun h19 => ?_) (fun h19 => absurd h19 (by decide))
  refine g_aload_n C 0 rfl rfl dX5_doesTimes_25 ?_
  refine g_callV1 [] C (c_X5_clearsAll w tu sg  ) mt_X5_clearsAll e_44 rfl ml_X5_79 im_X5_clearsAll se_X5_clearsAll (by decide) rfl (Nat.le_of_ble_eq_true rfl) dX5_doesTimes_26 ?_
  refine g_eq (sg' := (us sg 45 (fw 24 (fun _ => nI 0) (fw 12 (fun _ => nI 0) (sg 45) 12) 7))) (L' := [(0, .ref (ad w 44)), (1, .int (nI n)), (2, .int (nI 1))]) (S' := [.int (czX (sg 45) (fun _ => nI 0) 12 12)]) rfl rfl rfl rfl ?_
  refine g_sgE (sg' := (us sg 45 (clR (sg 45)))) rfl ?_
  refine g_istore_n C (L' := [(3, .int (czX (sg 45) (fun _ => nI 0) 12 12)), (0, .ref (ad w 44)), (1, .int (nI n)), (2, .int (nI 1))]) rfl (by decide) rfl dX5_doesTimes_29 ?_
  refine g_aload_n C 1 rfl rfl dX5_doesTimes_30 ?_
  refine g_iload_n C 2 rfl rfl dX5_doesTimes_31 ?_
  refine g_iload_n C 3 rfl rfl dX5_doesTimes_32 ?_
  refine g_callV1 [] C (c_X5_laysPlan_1 w tu (us sg 45 (clR (sg 45))) n (by omega)) mt_X5_laysPlan e_44 rfl ml_X5_83 im_X5_laysPlan se_X5_laysPlan (by decide) rfl (Nat.le_of_ble_eq_true rfl) dX5_doesTimes_33 ?_
  refine g_eq (sg' := (us (us sg 45 (clR (sg 45))) 52 (fun k => pI 1 (mkP 1 n k)))) (L' := [(3, .int (czX (sg 45) (fun _ => nI 0) 12 12)), (0, .ref (ad w 44)), (1, .int (nI n)), (2, .int (nI 1))]) (S' := [.int (nI (smP 1 n 7))]) rfl rfl rfl rfl ?_
  refine g_istore C (L' := [(4, .int (nI (smP 1 n 7))), (3, .int (czX (sg 45) (fun _ => nI 0) 12 12)), (0, .ref (ad w 44)), (1, .int (nI n)), (2, .int (nI 1))]) (by decide) rfl dX5_doesTimes_36 ?_
  refine g_aload_n C 2 rfl rfl dX5_doesTimes_38 ?_
  refine g_callV0 [] C (c_X5_laysGives w tu (us (us sg 45 (clR (sg 45))) 52 (fun k => pI 1 (mkP 1 n k)))  (dN (clR (sg 45))) (clR_ok hok).1) mt_X5_laysGives e_44 rfl ml_X5_67 im_X5_laysGives se_X5_laysGives (by decide) rfl (Nat.le_of_ble_eq_true rfl) dX5_doesTimes_39 ?_
  refine g_eq (sg' := (us (us (us sg 45 (clR (sg 45))) 52 (fun k => pI 1 (mkP 1 n k))) 50 (fun d => whX ((clR (sg 45)) (6 + d)) ((dN (clR (sg 45))) d + 1)))) (L' := [(4, .int (nI (smP 1 n 7))), (3, .int (czX (sg 45) (fun _ => nI 0) 12 12)), (0, .ref (ad w 44)), (1, .int (nI n)), (2, .int (nI 1))]) (S' := []) rfl rfl rfl rfl ?_
  refine g_iconst C (v := (nI 0)) (by decide) dX5_doesTimes_42 ?_
  refine g_istore C (L' := [(5, .int (nI 0)), (4, .int (nI (smP 1 n 7))), (3, .int (czX (sg 45) (fun _ => nI 0) 12 12)), (0, .ref (ad w 44)), (1, .int (nI n)), (2, .int (nI 1))]) (by decide) rfl dX5_doesTimes_43 ?_
  have lp : ∀ (nf i : Nat), 7 < i + nf → i ≤ 7 → (True) → G z w 9 (us (us (us sg 52 (fun k => pI 1 (mkP 1 n k))) 50 (fun d => whX (clR (sg 45) (6 + d)) (dN (clR (sg 45)) d + 1))) 45 (muR 1 n (gN (sg 45)) i (clR (sg 45)))) tu 45 [(5, .int (nI i)), (4, .int (nI (smP 1 n 7))), (3, .int (czX (sg 45) (fun _ => nI 0) 12 12)), (0, .ref (ad w 44)), (1, .int (nI n)), (2, .int (nI 1))] [] := by
    intro nf
    induction nf with
    | zero => intro i  h1 h2 hI; exact absurd h1 (by omega)
    | succ nf ih =>
      intro i  h1 h2 hI
      refine g_iload C 0 rfl dX5_doesTimes_45 ?_
      refine g_bipush C (v := (nI 6)) (by decide) dX5_doesTimes_47 ?_
      refine g_iload_n C 5 rfl rfl dX5_doesTimes_49 ?_
      refine g_iadd C dX5_doesTimes_50 ?_
      refine g_top (y := (nI 7)) (nI_add 6 1) ?_
      refine g_icmpN_ge C i 7 (by omega) (by omega) (tgt := 119) (by decide) dX5_doesTimes_51 (fun h51 => ?_) (fun h51 => ?_)
      ·
        have hiN : i = 7 := by omega
        subst hiN
        refine g_iload C 1 rfl dX5_doesTimes_119 ?_
        exact g_iret C E dX5_doesTimes_121 rfl Sq.rf rfl
      ·
        refine g_aload_n C 3 rfl rfl dX5_doesTimes_54 ?_
        refine g_getR C (j := 0) cls5 e_44 rfl (by decide) fl_X5_7 dX5_doesTimes_55 ?_
        refine g_bipush C (v := (nI 31)) (by decide) dX5_doesTimes_58 ?_
        refine g_iload C 0 rfl dX5_doesTimes_60 ?_
        refine g_iastN C 31 e_45 (by decide) (by decide) dX5_doesTimes_62 ?_
        refine g_sgE (sg' := (us (us (us sg 52 (fun k => pI 1 (mkP 1 n k))) 50 (fun d => whX (clR (sg 45) (6 + d)) (dN (clR (sg 45)) d + 1))) 45 (upd (muR 1 n (gN (sg 45)) i (clR (sg 45))) 31 (nI i)))) us_us ?_
        refine g_aload_n C 3 rfl rfl dX5_doesTimes_63 ?_
        refine g_getR C (j := 9) cls5 e_44 rfl (by decide) fl_X5_31 dX5_doesTimes_64 ?_
        refine g_iload C 0 rfl dX5_doesTimes_67 ?_
        refine g_ialdN C i e_52 (by omega) (by decide) dX5_doesTimes_69 ?_
        refine g_top (y := ((fun k => pI 1 (mkP 1 n k)) i)) rfl ?_
        by_cases hov : (1 : Nat) = 1 ∧ 5 < mkP 1 n i % 10
        ·
          have hng := ng_nI (mkP 1 n i % 10) (by omega) hov.2
          refine g_top (y := nI (mkP 1 n i % 10) - nI 10) (if_pos hov) ?_
          refine g_if_ge C (tgt := 77) (by decide) dX5_doesTimes_70 (fun h70 => absurd h70 (Int32.not_le.mpr (hng.1.mpr (by omega)))) (fun h70 => ?_)
          refine g_iconst C (v := (-1)) (by decide) dX5_doesTimes_73 ?_
          refine g_goto C (tgt := 78) (by decide) dX5_doesTimes_74 ?_
          refine g_istore C (L' := [(6, .int (-1)), (5, .int (nI i)), (4, .int (nI (smP 1 n 7))), (3, .int (czX (sg 45) (fun _ => nI 0) 12 12)), (0, .ref (ad w 44)), (1, .int (nI n)), (2, .int (nI 1))]) (by decide) rfl dX5_doesTimes_78 ?_
          refine g_iload C 0 rfl dX5_doesTimes_80 ?_
          refine g_aload_n C 4 rfl rfl dX5_doesTimes_82 ?_
          refine g_getR C (j := 9) cls5 e_44 rfl (by decide) fl_X5_31 dX5_doesTimes_83 ?_
          refine g_iload C 1 rfl dX5_doesTimes_86 ?_
          refine g_ialdN C i e_52 (by omega) (by decide) dX5_doesTimes_88 ?_
          refine g_top (y := ((fun k => pI 1 (mkP 1 n k)) i)) rfl ?_
          refine g_top (y := nI (mkP 1 n i % 10) - nI 10) (if_pos hov) ?_
          refine g_imul C dX5_doesTimes_89 ?_
          refine g_top (y := nI (10 - mkP 1 n i % 10)) hng.2.2 ?_
          refine g_istore C (L' := [(7, .int (nI (10 - mkP 1 n i % 10))), (6, .int (-1)), (5, .int (nI i)), (4, .int (nI (smP 1 n 7))), (3, .int (czX (sg 45) (fun _ => nI 0) 12 12)), (0, .ref (ad w 44)), (1, .int (nI n)), (2, .int (nI 1))]) (by decide) rfl dX5_doesTimes_90 ?_
          have hF0 : ROk (upd (muR 1 n (gN (sg 45)) i (clR (sg 45))) 31 (nI i)) := sh_ok (muR_ok (clR_ok hok) (fun _ h => (gN_ok hok h).2) i (by omega)) (by omega)
          have lpi : ∀ (r t : Nat), t + r = (10 - mkP 1 n i % 10) → G z w 9 (us (us (us sg 52 (fun k => pI 1 (mkP 1 n k))) 50 (fun d => whX (clR (sg 45) (6 + d)) (dN (clR (sg 45)) d + 1))) 45 (itR false (-1) (gN (sg 45)) t (upd (muR 1 n (gN (sg 45)) i (clR (sg 45))) 31 (nI i)))) tu 92 [(7, .int (nI r)), (6, .int (-1)), (5, .int (nI i)), (4, .int (nI (smP 1 n 7))), (3, .int (czX (sg 45) (fun _ => nI 0) 12 12)), (0, .ref (ad w 44)), (1, .int (nI n)), (2, .int (nI 1))] [] := by
            intro r
            induction r with
            | zero =>
              intro t ht
              refine g_iload C 0 rfl dX5_doesTimes_92 ?_
              refine g_if_le C (tgt := 113) (by decide) dX5_doesTimes_94 (fun h94 => ?_) (fun h94 => absurd h94 (by decide))
              refine g_iinc C (n := 1) (v := (nI (i + 1))) (L' := [(5, .int (nI (i + 1))), (7, .int (nI 0)), (6, .int (-1)), (4, .int (nI (smP 1 n 7))), (3, .int (czX (sg 45) (fun _ => nI 0) 12 12)), (0, .ref (ad w 44)), (1, .int (nI n)), (2, .int (nI 1))]) 2 rfl (nI_add i 1) (by decide) rfl dX5_doesTimes_113 ?_
              refine g_goto C (tgt := 45) (by decide) dX5_doesTimes_116 ?_
              have htA : t = (10 - mkP 1 n i % 10) := by omega
              subst htA
              refine g_sub (L' := [(5, .int (nI (i + 1))), (4, .int (nI (smP 1 n 7))), (3, .int (czX (sg 45) (fun _ => nI 0) 12 12)), (0, .ref (ad w 44)), (1, .int (nI n)), (2, .int (nI 1))]) [0, 3, 4, 5, 6, 7] rfl ?_
              refine g_sgE (sg' := (us (us (us sg 52 (fun k => pI 1 (mkP 1 n k))) 50 (fun d => whX (clR (sg 45) (6 + d)) (dN (clR (sg 45)) d + 1))) 45 (muR 1 n (gN (sg 45)) (i + 1) (clR (sg 45))))) (congrArg (us _ 45) (muR_ov hov).symm) ?_
              exact ih (i + 1)  (by omega) (by omega) trivial
            | succ r ihr =>
              intro t ht
              refine g_iload C 0 rfl dX5_doesTimes_92 ?_
              refine g_if_le C (tgt := 113) (by decide) dX5_doesTimes_94 (fun h94 => absurd h94 (nI_nle (by omega) (by omega))) (fun h94 => ?_)
              refine g_aload_n C 5 rfl rfl dX5_doesTimes_97 ?_
              refine g_iload C 1 rfl dX5_doesTimes_98 ?_
              refine g_iload C 1 rfl dX5_doesTimes_100 ?_
              refine g_callV1 [] C (c_X5_turnsOnce_dn w tu (us (us (us sg 52 (fun k => pI 1 (mkP 1 n k))) 50 (fun d => whX (clR (sg 45) (6 + d)) (dN (clR (sg 45)) d + 1))) 45 (itR false (-1) (gN (sg 45)) t (upd (muR 1 n (gN (sg 45)) i (clR (sg 45))) 31 (nI i)))) (-1) (gN (sg 45)) (itR_ok hF0 (fun _ h => (gN_ok hok h).2) t) (fun d h => by show whX (clR (sg 45) (6 + d)) (dN (clR (sg 45)) d + 1) = _; unfold dN; rw [clR_lo (by omega), clR_lo (by omega)]; exact (gN_ok hok h).1) (fun _ h => (gN_ok hok h).2)) mt_X5_turnsOnce e_44 rfl ml_X5_70 im_X5_turnsOnce se_X5_turnsOnce (by decide) rfl (Nat.le_of_ble_eq_true rfl) dX5_doesTimes_102 ?_
              refine g_eq (sg' := (us (us (us (us sg 52 (fun k => pI 1 (mkP 1 n k))) 50 (fun d => whX (clR (sg 45) (6 + d)) (dN (clR (sg 45)) d + 1))) 45 (itR false (-1) (gN (sg 45)) t (upd (muR 1 n (gN (sg 45)) i (clR (sg 45))) 31 (nI i)))) 45 (tR false (-1) (gN (sg 45)) (itR false (-1) (gN (sg 45)) t (upd (muR 1 n (gN (sg 45)) i (clR (sg 45))) 31 (nI i)))))) (L' := [(7, .int (nI (r + 1))), (6, .int (-1)), (5, .int (nI i)), (4, .int (nI (smP 1 n 7))), (3, .int (czX (sg 45) (fun _ => nI 0) 12 12)), (0, .ref (ad w 44)), (1, .int (nI n)), (2, .int (nI 1))]) (S' := [.int (bI (blP false (wN (itR false (-1) (gN (sg 45)) t (upd (muR 1 n (gN (sg 45)) i (clR (sg 45))) 31 (nI i)))) (gN (sg 45)) (sN (itR false (-1) (gN (sg 45)) t (upd (muR 1 n (gN (sg 45)) i (clR (sg 45))) 31 (nI i)))) (sN (itR false (-1) (gN (sg 45)) t (upd (muR 1 n (gN (sg 45)) i (clR (sg 45))) 31 (nI i))) + 5 + reN (itR false (-1) (gN (sg 45)) t (upd (muR 1 n (gN (sg 45)) i (clR (sg 45))) 31 (nI i))))))]) rfl rfl rfl rfl ?_
              refine g_istore C (L' := [(8, .int (bI (blP false (wN (itR false (-1) (gN (sg 45)) t (upd (muR 1 n (gN (sg 45)) i (clR (sg 45))) 31 (nI i)))) (gN (sg 45)) (sN (itR false (-1) (gN (sg 45)) t (upd (muR 1 n (gN (sg 45)) i (clR (sg 45))) 31 (nI i)))) (sN (itR false (-1) (gN (sg 45)) t (upd (muR 1 n (gN (sg 45)) i (clR (sg 45))) 31 (nI i))) + 5 + reN (itR false (-1) (gN (sg 45)) t (upd (muR 1 n (gN (sg 45)) i (clR (sg 45))) 31 (nI i))))))), (7, .int (nI (r + 1))), (6, .int (-1)), (5, .int (nI i)), (4, .int (nI (smP 1 n 7))), (3, .int (czX (sg 45) (fun _ => nI 0) 12 12)), (0, .ref (ad w 44)), (1, .int (nI n)), (2, .int (nI 1))]) (by decide) rfl dX5_doesTimes_105 ?_
              refine g_iinc C (n := -1) (v := ((nI (r + 1)) + (-1))) (L' := [(7, .int ((nI (r + 1)) + (-1))), (8, .int (bI (blP false (wN (itR false (-1) (gN (sg 45)) t (upd (muR 1 n (gN (sg 45)) i (clR (sg 45))) 31 (nI i)))) (gN (sg 45)) (sN (itR false (-1) (gN (sg 45)) t (upd (muR 1 n (gN (sg 45)) i (clR (sg 45))) 31 (nI i)))) (sN (itR false (-1) (gN (sg 45)) t (upd (muR 1 n (gN (sg 45)) i (clR (sg 45))) 31 (nI i))) + 5 + reN (itR false (-1) (gN (sg 45)) t (upd (muR 1 n (gN (sg 45)) i (clR (sg 45))) 31 (nI i))))))), (6, .int (-1)), (5, .int (nI i)), (4, .int (nI (smP 1 n 7))), (3, .int (czX (sg 45) (fun _ => nI 0) 12 12)), (0, .ref (ad w 44)), (1, .int (nI n)), (2, .int (nI 1))]) 1 rfl rfl (by decide) rfl dX5_doesTimes_107 ?_
              refine g_goto C (tgt := 92) (by decide) dX5_doesTimes_110 ?_
              refine g_sub (L' := [(7, .int ((nI (r + 1)) + (-1))), (6, .int (-1)), (5, .int (nI i)), (4, .int (nI (smP 1 n 7))), (3, .int (czX (sg 45) (fun _ => nI 0) 12 12)), (0, .ref (ad w 44)), (1, .int (nI n)), (2, .int (nI 1))]) [0, 2, 3, 4, 5, 6, 7, 8] rfl ?_
              refine g_eq (L' := [(7, .int (nI r)), (6, .int (-1)), (5, .int (nI i)), (4, .int (nI (smP 1 n 7))), (3, .int (czX (sg 45) (fun _ => nI 0) 12 12)), (0, .ref (ad w 44)), (1, .int (nI n)), (2, .int (nI 1))]) rfl rfl (by rw [pk_m1]) rfl ?_
              refine g_sgE (sg' := (us (us (us sg 52 (fun k => pI 1 (mkP 1 n k))) 50 (fun d => whX (clR (sg 45) (6 + d)) (dN (clR (sg 45)) d + 1))) 45 (itR false (-1) (gN (sg 45)) (t + 1) (upd (muR 1 n (gN (sg 45)) i (clR (sg 45))) 31 (nI i))))) us_us ?_
              exact ihr (t + 1) (by omega)
          refine g_sub (L' := [(7, .int (nI (10 - mkP 1 n i % 10))), (6, .int (-1)), (5, .int (nI i)), (4, .int (nI (smP 1 n 7))), (3, .int (czX (sg 45) (fun _ => nI 0) 12 12)), (0, .ref (ad w 44)), (1, .int (nI n)), (2, .int (nI 1))]) [0, 1, 2, 3, 4, 5, 6, 7] rfl ?_
          refine g_sgE (sg' := (us (us (us sg 52 (fun k => pI 1 (mkP 1 n k))) 50 (fun d => whX (clR (sg 45) (6 + d)) (dN (clR (sg 45)) d + 1))) 45 (itR false (-1) (gN (sg 45)) 0 (upd (muR 1 n (gN (sg 45)) i (clR (sg 45))) 31 (nI i))))) rfl ?_
          exact lpi (10 - mkP 1 n i % 10) 0 (Nat.zero_add _)
        ·
          refine g_top (y := nI (mkP 1 n i % 10)) (if_neg hov) ?_
          refine g_if_ge C (tgt := 77) (by decide) dX5_doesTimes_70 (fun h70 => ?_) (fun h70 => absurd (nI_pos' (by omega)) h70)
          refine g_iconst C (v := (nI 1)) (by decide) dX5_doesTimes_77 ?_
          refine g_istore C (L' := [(6, .int (nI 1)), (5, .int (nI i)), (4, .int (nI (smP 1 n 7))), (3, .int (czX (sg 45) (fun _ => nI 0) 12 12)), (0, .ref (ad w 44)), (1, .int (nI n)), (2, .int (nI 1))]) (by decide) rfl dX5_doesTimes_78 ?_
          refine g_iload C 0 rfl dX5_doesTimes_80 ?_
          refine g_aload_n C 4 rfl rfl dX5_doesTimes_82 ?_
          refine g_getR C (j := 9) cls5 e_44 rfl (by decide) fl_X5_31 dX5_doesTimes_83 ?_
          refine g_iload C 1 rfl dX5_doesTimes_86 ?_
          refine g_ialdN C i e_52 (by omega) (by decide) dX5_doesTimes_88 ?_
          refine g_top (y := ((fun k => pI 1 (mkP 1 n k)) i)) rfl ?_
          refine g_top (y := nI (mkP 1 n i % 10)) (if_neg hov) ?_
          refine g_imul C dX5_doesTimes_89 ?_
          refine g_top (y := (nI (mkP 1 n i % 10))) (by rw [pk_mul, Nat.one_mul]) ?_
          refine g_istore C (L' := [(7, .int (nI (mkP 1 n i % 10))), (6, .int (nI 1)), (5, .int (nI i)), (4, .int (nI (smP 1 n 7))), (3, .int (czX (sg 45) (fun _ => nI 0) 12 12)), (0, .ref (ad w 44)), (1, .int (nI n)), (2, .int (nI 1))]) (by decide) rfl dX5_doesTimes_90 ?_
          have hF0 : ROk (upd (muR 1 n (gN (sg 45)) i (clR (sg 45))) 31 (nI i)) := sh_ok (muR_ok (clR_ok hok) (fun _ h => (gN_ok hok h).2) i (by omega)) (by omega)
          have lpi : ∀ (r t : Nat), t + r = (mkP 1 n i % 10) → G z w 9 (us (us (us sg 52 (fun k => pI 1 (mkP 1 n k))) 50 (fun d => whX (clR (sg 45) (6 + d)) (dN (clR (sg 45)) d + 1))) 45 (itR true (nI 1) (gN (sg 45)) t (upd (muR 1 n (gN (sg 45)) i (clR (sg 45))) 31 (nI i)))) tu 92 [(7, .int (nI r)), (6, .int (nI 1)), (5, .int (nI i)), (4, .int (nI (smP 1 n 7))), (3, .int (czX (sg 45) (fun _ => nI 0) 12 12)), (0, .ref (ad w 44)), (1, .int (nI n)), (2, .int (nI 1))] [] := by
            intro r
            induction r with
            | zero =>
              intro t ht
              refine g_iload C 0 rfl dX5_doesTimes_92 ?_
              refine g_if_le C (tgt := 113) (by decide) dX5_doesTimes_94 (fun h94 => ?_) (fun h94 => absurd h94 (by decide))
              refine g_iinc C (n := 1) (v := (nI (i + 1))) (L' := [(5, .int (nI (i + 1))), (7, .int (nI 0)), (6, .int (nI 1)), (4, .int (nI (smP 1 n 7))), (3, .int (czX (sg 45) (fun _ => nI 0) 12 12)), (0, .ref (ad w 44)), (1, .int (nI n)), (2, .int (nI 1))]) 2 rfl (nI_add i 1) (by decide) rfl dX5_doesTimes_113 ?_
              refine g_goto C (tgt := 45) (by decide) dX5_doesTimes_116 ?_
              have htA : t = (mkP 1 n i % 10) := by omega
              subst htA
              refine g_sub (L' := [(5, .int (nI (i + 1))), (4, .int (nI (smP 1 n 7))), (3, .int (czX (sg 45) (fun _ => nI 0) 12 12)), (0, .ref (ad w 44)), (1, .int (nI n)), (2, .int (nI 1))]) [0, 3, 4, 5, 6, 7] rfl ?_
              refine g_sgE (sg' := (us (us (us sg 52 (fun k => pI 1 (mkP 1 n k))) 50 (fun d => whX (clR (sg 45) (6 + d)) (dN (clR (sg 45)) d + 1))) 45 (muR 1 n (gN (sg 45)) (i + 1) (clR (sg 45))))) (congrArg (us _ 45) (muR_no hov).symm) ?_
              exact ih (i + 1)  (by omega) (by omega) trivial
            | succ r ihr =>
              intro t ht
              refine g_iload C 0 rfl dX5_doesTimes_92 ?_
              refine g_if_le C (tgt := 113) (by decide) dX5_doesTimes_94 (fun h94 => absurd h94 (nI_nle (by omega) (by omega))) (fun h94 => ?_)
              refine g_aload_n C 5 rfl rfl dX5_doesTimes_97 ?_
              refine g_iload C 1 rfl dX5_doesTimes_98 ?_
              refine g_iload C 1 rfl dX5_doesTimes_100 ?_
              refine g_callV1 [] C (c_X5_turnsOnce_up w tu (us (us (us sg 52 (fun k => pI 1 (mkP 1 n k))) 50 (fun d => whX (clR (sg 45) (6 + d)) (dN (clR (sg 45)) d + 1))) 45 (itR true (nI 1) (gN (sg 45)) t (upd (muR 1 n (gN (sg 45)) i (clR (sg 45))) 31 (nI i)))) (nI 1) (gN (sg 45)) (itR_ok hF0 (fun _ h => (gN_ok hok h).2) t) (fun d h => by show whX (clR (sg 45) (6 + d)) (dN (clR (sg 45)) d + 1) = _; unfold dN; rw [clR_lo (by omega), clR_lo (by omega)]; exact (gN_ok hok h).1) (fun _ h => (gN_ok hok h).2)) mt_X5_turnsOnce e_44 rfl ml_X5_70 im_X5_turnsOnce se_X5_turnsOnce (by decide) rfl (Nat.le_of_ble_eq_true rfl) dX5_doesTimes_102 ?_
              refine g_eq (sg' := (us (us (us (us sg 52 (fun k => pI 1 (mkP 1 n k))) 50 (fun d => whX (clR (sg 45) (6 + d)) (dN (clR (sg 45)) d + 1))) 45 (itR true (nI 1) (gN (sg 45)) t (upd (muR 1 n (gN (sg 45)) i (clR (sg 45))) 31 (nI i)))) 45 (tR true (nI 1) (gN (sg 45)) (itR true (nI 1) (gN (sg 45)) t (upd (muR 1 n (gN (sg 45)) i (clR (sg 45))) 31 (nI i)))))) (L' := [(7, .int (nI (r + 1))), (6, .int (nI 1)), (5, .int (nI i)), (4, .int (nI (smP 1 n 7))), (3, .int (czX (sg 45) (fun _ => nI 0) 12 12)), (0, .ref (ad w 44)), (1, .int (nI n)), (2, .int (nI 1))]) (S' := [.int (bI (blP true (wN (itR true (nI 1) (gN (sg 45)) t (upd (muR 1 n (gN (sg 45)) i (clR (sg 45))) 31 (nI i)))) (gN (sg 45)) (sN (itR true (nI 1) (gN (sg 45)) t (upd (muR 1 n (gN (sg 45)) i (clR (sg 45))) 31 (nI i)))) (sN (itR true (nI 1) (gN (sg 45)) t (upd (muR 1 n (gN (sg 45)) i (clR (sg 45))) 31 (nI i))) + 5 + reN (itR true (nI 1) (gN (sg 45)) t (upd (muR 1 n (gN (sg 45)) i (clR (sg 45))) 31 (nI i))))))]) rfl rfl rfl rfl ?_
              refine g_istore C (L' := [(8, .int (bI (blP true (wN (itR true (nI 1) (gN (sg 45)) t (upd (muR 1 n (gN (sg 45)) i (clR (sg 45))) 31 (nI i)))) (gN (sg 45)) (sN (itR true (nI 1) (gN (sg 45)) t (upd (muR 1 n (gN (sg 45)) i (clR (sg 45))) 31 (nI i)))) (sN (itR true (nI 1) (gN (sg 45)) t (upd (muR 1 n (gN (sg 45)) i (clR (sg 45))) 31 (nI i))) + 5 + reN (itR true (nI 1) (gN (sg 45)) t (upd (muR 1 n (gN (sg 45)) i (clR (sg 45))) 31 (nI i))))))), (7, .int (nI (r + 1))), (6, .int (nI 1)), (5, .int (nI i)), (4, .int (nI (smP 1 n 7))), (3, .int (czX (sg 45) (fun _ => nI 0) 12 12)), (0, .ref (ad w 44)), (1, .int (nI n)), (2, .int (nI 1))]) (by decide) rfl dX5_doesTimes_105 ?_
              refine g_iinc C (n := -1) (v := ((nI (r + 1)) + (-1))) (L' := [(7, .int ((nI (r + 1)) + (-1))), (8, .int (bI (blP true (wN (itR true (nI 1) (gN (sg 45)) t (upd (muR 1 n (gN (sg 45)) i (clR (sg 45))) 31 (nI i)))) (gN (sg 45)) (sN (itR true (nI 1) (gN (sg 45)) t (upd (muR 1 n (gN (sg 45)) i (clR (sg 45))) 31 (nI i)))) (sN (itR true (nI 1) (gN (sg 45)) t (upd (muR 1 n (gN (sg 45)) i (clR (sg 45))) 31 (nI i))) + 5 + reN (itR true (nI 1) (gN (sg 45)) t (upd (muR 1 n (gN (sg 45)) i (clR (sg 45))) 31 (nI i))))))), (6, .int (nI 1)), (5, .int (nI i)), (4, .int (nI (smP 1 n 7))), (3, .int (czX (sg 45) (fun _ => nI 0) 12 12)), (0, .ref (ad w 44)), (1, .int (nI n)), (2, .int (nI 1))]) 1 rfl rfl (by decide) rfl dX5_doesTimes_107 ?_
              refine g_goto C (tgt := 92) (by decide) dX5_doesTimes_110 ?_
              refine g_sub (L' := [(7, .int ((nI (r + 1)) + (-1))), (6, .int (nI 1)), (5, .int (nI i)), (4, .int (nI (smP 1 n 7))), (3, .int (czX (sg 45) (fun _ => nI 0) 12 12)), (0, .ref (ad w 44)), (1, .int (nI n)), (2, .int (nI 1))]) [0, 2, 3, 4, 5, 6, 7, 8] rfl ?_
              refine g_eq (L' := [(7, .int (nI r)), (6, .int (nI 1)), (5, .int (nI i)), (4, .int (nI (smP 1 n 7))), (3, .int (czX (sg 45) (fun _ => nI 0) 12 12)), (0, .ref (ad w 44)), (1, .int (nI n)), (2, .int (nI 1))]) rfl rfl (by rw [pk_m1]) rfl ?_
              refine g_sgE (sg' := (us (us (us sg 52 (fun k => pI 1 (mkP 1 n k))) 50 (fun d => whX (clR (sg 45) (6 + d)) (dN (clR (sg 45)) d + 1))) 45 (itR true (nI 1) (gN (sg 45)) (t + 1) (upd (muR 1 n (gN (sg 45)) i (clR (sg 45))) 31 (nI i))))) us_us ?_
              exact ihr (t + 1) (by omega)
          refine g_sub (L' := [(7, .int (nI (mkP 1 n i % 10))), (6, .int (nI 1)), (5, .int (nI i)), (4, .int (nI (smP 1 n 7))), (3, .int (czX (sg 45) (fun _ => nI 0) 12 12)), (0, .ref (ad w 44)), (1, .int (nI n)), (2, .int (nI 1))]) [0, 1, 2, 3, 4, 5, 6, 7] rfl ?_
          refine g_sgE (sg' := (us (us (us sg 52 (fun k => pI 1 (mkP 1 n k))) 50 (fun d => whX (clR (sg 45) (6 + d)) (dN (clR (sg 45)) d + 1))) 45 (itR true (nI 1) (gN (sg 45)) 0 (upd (muR 1 n (gN (sg 45)) i (clR (sg 45))) 31 (nI i))))) rfl ?_
          exact lpi (mkP 1 n i % 10) 0 (Nat.zero_add _)
  refine g_sgE (sg' := (us (us (us sg 52 (fun k => pI 1 (mkP 1 n k))) 50 (fun d => whX (clR (sg 45) (6 + d)) (dN (clR (sg 45)) d + 1))) 45 (muR 1 n (gN (sg 45)) 0 (clR (sg 45))))) (us_rot (by decide) (by decide)) ?_
  refine g_sub (L' := [(5, .int (nI 0)), (4, .int (nI (smP 1 n 7))), (3, .int (czX (sg 45) (fun _ => nI 0) 12 12)), (0, .ref (ad w 44)), (1, .int (nI n)), (2, .int (nI 1))]) [0, 1, 2, 3, 4, 5] rfl ?_
  exact lp (7 + 1) 0  (by omega) (by omega) trivial
end
section
set_option maxRecDepth 100000 in
set_option maxHeartbeats 4000000 in
theorem c_X5_downs0 (w : GW) (tu : Int64) (sg : Sg) (g : Nat → Nat) (hok : ROk (sg 45)) (hgi : ∀ i, i < 6 → sg 50 i = nI (g i)) (hg9 : ∀ i, i < 6 → g i ≤ 9) : Kt w yX5_downs0 cX5_downs0 3 (some .boolean) 2 [.ref (ad w 44)] sg tu (some (.int (bI (dwB g 20 (sg 45) = true)))) (us sg 45 (dwn g 20 (sg 45))) tu := by
  refine Kt.of2 RX5 rfl [(0, .ref (ad w 44))] (by decide) rfl (Nat.le_of_ble_eq_true rfl) (fun z C E => ?_)
  refine g_iconst C (v := (nI 0)) (by decide) dX5_downs0_0 ?_
  refine g_istore_n C (L' := [(1, .int (nI 0)), (0, .ref (ad w 44))]) rfl (by decide) rfl dX5_downs0_1 ?_
  refine g_iconst C (v := (nI 0)) (by decide) dX5_downs0_2 ?_
  refine g_istore_n C (L' := [(2, .int (nI 0)), (1, .int (nI 0)), (0, .ref (ad w 44))]) rfl (by decide) rfl dX5_downs0_3 ?_
  have lp : ∀ (r k : Nat) (f : Nat → Int32), k + r = 20 → ROk f → dwn g r f = dwn g 20 (sg 45) → dwB g r f = dwB g 20 (sg 45) → G z w 3 (us sg 45 f) tu 4 [(2, .int (nI k)), (1, .int (nI 0)), (0, .ref (ad w 44))] [] := by
    intro r
    induction r with
    | zero =>
      intro k f hk hf hd hb
      have hk20 : k = 20 := by omega
      subst hk20
      refine g_iload_n C 0 rfl rfl dX5_downs0_4 ?_
      refine g_bipush C (v := (nI 20)) (by decide) dX5_downs0_5 ?_
      refine g_icmpN_ge C 20 20 (by omega) (by omega) (tgt := 27) (by decide) dX5_downs0_7 (fun h7 => ?_) (fun h7 => absurd h7 (by decide))
      refine g_iload_n C 1 rfl rfl dX5_downs0_27 ?_
      exact g_zret C E dX5_downs0_28 (by decide +kernel) (bI_f (fun q => by rw [← hb] at q; cases q)).symm (Sq.of (by rw [← hd]; rfl)) rfl
    | succ r ih =>
      intro k f hk hf hd hb
      refine g_iload_n C 0 rfl rfl dX5_downs0_4 ?_
      refine g_bipush C (v := (nI 20)) (by decide) dX5_downs0_5 ?_
      refine g_icmpN_ge C k 20 (by omega) (by omega) (tgt := 27) (by decide) dX5_downs0_7 (fun h7 => absurd h7 (by omega)) (fun h7 => ?_)
      refine g_iload_n C 1 rfl rfl dX5_downs0_10 ?_
      refine g_if_ne C (tgt := 27) (by decide) dX5_downs0_11 (fun h11 => absurd h11 (by decide)) (fun h11 => ?_)
      refine g_aload_n C 2 rfl rfl dX5_downs0_14 ?_
      refine g_iconst C (v := (-1)) (by decide) dX5_downs0_15 ?_
      refine g_iconst C (v := (nI 1)) (by decide) dX5_downs0_16 ?_
      refine g_callV1 [] C (c_X5_turnsOnce_dn w tu (us sg 45 f) (nI 1) g hf hgi hg9) mt_X5_turnsOnce e_44 rfl ml_X5_70 im_X5_turnsOnce se_X5_turnsOnce (by decide) rfl (Nat.le_of_ble_eq_true rfl) dX5_downs0_17 ?_
      refine g_eq (sg' := (us (us sg 45 f) 45 (tR false (nI 1) g f))) (L' := [(2, .int (nI k)), (1, .int (nI 0)), (0, .ref (ad w 44))]) (S' := [.int (bI (blP false (wN f) g (sN f) (sN f + 5 + reN f)))]) rfl rfl rfl rfl ?_
      refine g_istore_n C (L' := [(1, .int (bI (blP false (wN f) g (sN f) (sN f + 5 + reN f)))), (2, .int (nI k)), (0, .ref (ad w 44))]) rfl (by decide) rfl dX5_downs0_20 ?_
      refine g_iinc C (n := 1) (v := (nI (k + 1))) (L' := [(2, .int (nI (k + 1))), (1, .int (bI (blP false (wN f) g (sN f) (sN f + 5 + reN f)))), (0, .ref (ad w 44))]) 1 rfl (nI_add k 1) (by decide) rfl dX5_downs0_21 ?_
      refine g_goto C (tgt := 4) (by decide) dX5_downs0_24 ?_
      by_cases hbl : blP false (wN f) g (sN f) (sN f + 5 + reN f)
      ·
        refine g_sub (L' := [(2, .int (nI (k + 1))), (1, .int (bI (blP false (wN f) g (sN f) (sN f + 5 + reN f)))), (0, .ref (ad w 44))]) [0, 1, 2] rfl ?_
        refine g_eq (sg' := (us sg 45 (tR false (nI 1) g f))) (L' := [(2, .int (nI (k + 1))), (1, .int (nI 1)), (0, .ref (ad w 44))]) us_us rfl (by rw [bI_t hbl]; rfl) rfl ?_
        refine g_iload_n C 0 rfl rfl dX5_downs0_4 ?_
        refine g_bipush C (v := (nI 20)) (by decide) dX5_downs0_5 ?_
        refine g_icmpN_ge C (k + 1) 20 (by omega) (by omega) (tgt := 27) (by decide) dX5_downs0_7 (fun h7 => ?_) (fun h7 => ?_)
        ·
          refine g_iload_n C 1 rfl rfl dX5_downs0_27 ?_
          exact g_zret C E dX5_downs0_28 (by decide +kernel) (bI_t (by rw [← hb, dwB_t hbl])).symm (Sq.of (by rw [← hd, dwn_t hbl])) rfl
        ·
          refine g_iload_n C 1 rfl rfl dX5_downs0_10 ?_
          refine g_if_ne C (tgt := 27) (by decide) dX5_downs0_11 (fun h11 => ?_) (fun h11 => absurd h11 (by decide))
          refine g_iload_n C 1 rfl rfl dX5_downs0_27 ?_
          exact g_zret C E dX5_downs0_28 (by decide +kernel) (bI_t (by rw [← hb, dwB_t hbl])).symm (Sq.of (by rw [← hd, dwn_t hbl])) rfl
      ·
        refine g_sub (L' := [(2, .int (nI (k + 1))), (1, .int (bI (blP false (wN f) g (sN f) (sN f + 5 + reN f)))), (0, .ref (ad w 44))]) [0, 1, 2] rfl ?_
        refine g_eq (sg' := (us sg 45 (tR false (nI 1) g f))) (L' := [(2, .int (nI (k + 1))), (1, .int (nI 0)), (0, .ref (ad w 44))]) us_us rfl (by rw [bI_f hbl]; rfl) rfl ?_
        exact ih (k + 1) _ (by omega) (tR_ok hf hg9) (by rw [← hd, dwn_f hbl]) (by rw [← hb, dwB_f hbl])
  refine g_sgE (sg' := (us sg 45 (sg 45))) us_id.symm ?_
  exact lp 20 0 (sg 45) rfl hok rfl rfl
set_option maxRecDepth 100000 in
set_option maxHeartbeats 4000000 in
theorem c_X5_doesDivide_z (w : GW) (tu : Int64) (sg : Sg) (hok : ROk (sg 45)) (hz : gsm (gN (sg 45)) 6 = 0) : Kt w yX5_doesDivide cX5_doesDivide 5 (some .int) 2 [.ref (ad w 44)] sg tu (some (.int (-3))) (us sg 50 (fun d => whX ((sg 45) (6 + d)) (dN (sg 45) d + 1))) tu := by
  refine Kt.of2 RX5 rfl [(0, .ref (ad w 44))] (by decide) rfl (Nat.le_of_ble_eq_true rfl) (fun z C E => ?_)
  refine g_aload_n C 0 rfl rfl dX5_doesDivide_0 ?_
  refine g_callV0 [] C (c_X5_laysGives w tu sg  (dN (sg 45)) hok.1) mt_X5_laysGives e_44 rfl ml_X5_67 im_X5_laysGives se_X5_laysGives (by decide) rfl (Nat.le_of_ble_eq_true rfl) dX5_doesDivide_1 ?_
  refine g_eq (sg' := (us sg 50 (fun d => whX ((sg 45) (6 + d)) ((dN (sg 45)) d + 1)))) (L' := [(0, .ref (ad w 44))]) (S' := []) rfl rfl rfl rfl ?_
  refine g_iconst C (v := (nI 0)) (by decide) dX5_doesDivide_4 ?_
  refine g_istore_n C (L' := [(1, .int (nI 0)), (0, .ref (ad w 44))]) rfl (by decide) rfl dX5_doesDivide_5 ?_
  refine g_iconst C (v := (nI 0)) (by decide) dX5_doesDivide_6 ?_
  refine g_istore_n C (L' := [(2, .int (nI 0)), (1, .int (nI 0)), (0, .ref (ad w 44))]) rfl (by decide) rfl dX5_doesDivide_7 ?_
  have lps : ∀ (nf i : Nat), 6 < i + nf → i ≤ 6 → (True) → G z w 5 (us sg 50 (fun d => whX ((sg 45) (6 + d)) ((dN (sg 45)) d + 1))) tu 8 [(2, .int (nI i)), (1, .int (nI (gsm (gN (sg 45)) i))), (0, .ref (ad w 44))] [] := by
    intro nf
    induction nf with
    | zero => intro i  h1 h2 hI; exact absurd h1 (by omega)
    | succ nf ih =>
      intro i  h1 h2 hI
      have hgs := gsm_le (fun _ h => (gN_ok hok h).2) i (by omega)
      refine g_iload_n C 0 rfl rfl dX5_doesDivide_8 ?_
      refine g_bipush C (v := (nI 6)) (by decide) dX5_doesDivide_9 ?_
      refine g_icmpN_ge C i 6 (by omega) (by omega) (tgt := 29) (by decide) dX5_doesDivide_11 (fun h11 => ?_) (fun h11 => ?_)
      ·
        have hiN : i = 6 := by omega
        subst hiN
        refine g_iload_n C 1 rfl rfl dX5_doesDivide_29 ?_
        refine g_ifN_ne C (gsm (gN (sg 45)) 6) (by omega) (tgt := 36) (by decide) dX5_doesDivide_30 (fun h30 => absurd hz h30) (fun h30 => ?_)
        refine g_bipush C (v := (-3)) (by decide) dX5_doesDivide_33 ?_
        exact g_iret C E dX5_doesDivide_35 rfl Sq.rf rfl
      ·
        refine g_iload_n C 1 rfl rfl dX5_doesDivide_14 ?_
        refine g_aload_n C 2 rfl rfl dX5_doesDivide_15 ?_
        refine g_getR C (j := 7) cls5 e_44 rfl (by decide) fl_X5_25 dX5_doesDivide_16 ?_
        refine g_iload_n C 0 rfl rfl dX5_doesDivide_19 ?_
        refine g_ialdN C i e_50 (by omega) (by decide) dX5_doesDivide_20 ?_
        refine g_top (y := ((fun d => whX ((sg 45) (6 + d)) ((dN (sg 45)) d + 1)) i)) rfl ?_
        refine g_top (y := (nI (gN (sg 45) i))) (gN_ok hok (by omega)).1 ?_
        refine g_iadd C dX5_doesDivide_21 ?_
        refine g_top (y := (nI ((gsm (gN (sg 45)) i) + (gN (sg 45) i)))) (nI_add (gsm (gN (sg 45)) i) (gN (sg 45) i)) ?_
        refine g_istore_n C (L' := [(1, .int (nI ((gsm (gN (sg 45)) i) + (gN (sg 45) i)))), (2, .int (nI i)), (0, .ref (ad w 44))]) rfl (by decide) rfl dX5_doesDivide_22 ?_
        refine g_iinc C (n := 1) (v := (nI (i + 1))) (L' := [(2, .int (nI (i + 1))), (1, .int (nI ((gsm (gN (sg 45)) i) + (gN (sg 45) i)))), (0, .ref (ad w 44))]) 1 rfl (nI_add i 1) (by decide) rfl dX5_doesDivide_23 ?_
        refine g_goto C (tgt := 8) (by decide) dX5_doesDivide_26 ?_
        refine g_sub (L' := [(2, .int (nI (i + 1))), (1, .int (nI ((gsm (gN (sg 45)) i) + (gN (sg 45) i)))), (0, .ref (ad w 44))]) [0, 1, 2] rfl ?_
        refine g_eq (L' := [(2, .int (nI (i + 1))), (1, .int (nI (gsm (gN (sg 45)) (i + 1)))), (0, .ref (ad w 44))]) rfl rfl rfl rfl ?_
        exact ih (i + 1)  (by omega) (by omega) trivial
  exact lps (6 + 1) 0  (by omega) (by omega) trivial
set_option maxRecDepth 100000 in
set_option maxHeartbeats 4000000 in
theorem c_X5_doesDivide_ok (w : GW) (tu : Int64) (sg : Sg) (hok : ROk (sg 45)) (hz : ¬ gsm (gN (sg 45)) 6 = 0) (hb : dvB (gN (sg 45)) 7 (ccR (sg 45)) = true) : Kt w yX5_doesDivide cX5_doesDivide 5 (some .int) 3 [.ref (ad w 44)] sg tu (some (.int (nI (dvC (gN (sg 45)) 7 (ccR (sg 45)))))) (us (us sg 50 (fun d => whX ((sg 45) (6 + d)) (dN (sg 45) d + 1))) 45 (dvF (gN (sg 45)) 7 (ccR (sg 45)))) tu := by
  refine Kt.of2 RX5 rfl [(0, .ref (ad w 44))] (by decide) rfl (Nat.le_of_ble_eq_true rfl) (fun z C E => ?_)
  refine g_aload_n C 0 rfl rfl dX5_doesDivide_0 ?_
  refine g_callV0 [] C (c_X5_laysGives w tu sg  (dN (sg 45)) hok.1) mt_X5_laysGives e_44 rfl ml_X5_67 im_X5_laysGives se_X5_laysGives (by decide) rfl (Nat.le_of_ble_eq_true rfl) dX5_doesDivide_1 ?_
  refine g_eq (sg' := (us sg 50 (fun d => whX ((sg 45) (6 + d)) ((dN (sg 45)) d + 1)))) (L' := [(0, .ref (ad w 44))]) (S' := []) rfl rfl rfl rfl ?_
  refine g_iconst C (v := (nI 0)) (by decide) dX5_doesDivide_4 ?_
  refine g_istore_n C (L' := [(1, .int (nI 0)), (0, .ref (ad w 44))]) rfl (by decide) rfl dX5_doesDivide_5 ?_
  refine g_iconst C (v := (nI 0)) (by decide) dX5_doesDivide_6 ?_
  refine g_istore_n C (L' := [(2, .int (nI 0)), (1, .int (nI 0)), (0, .ref (ad w 44))]) rfl (by decide) rfl dX5_doesDivide_7 ?_
  have lps : ∀ (nf i : Nat), 6 < i + nf → i ≤ 6 → (True) → G z w 5 (us sg 50 (fun d => whX ((sg 45) (6 + d)) ((dN (sg 45)) d + 1))) tu 8 [(2, .int (nI i)), (1, .int (nI (gsm (gN (sg 45)) i))), (0, .ref (ad w 44))] [] := by
    intro nf
    induction nf with
    | zero => intro i  h1 h2 hI; exact absurd h1 (by omega)
    | succ nf ih =>
      intro i  h1 h2 hI
      have hgs := gsm_le (fun _ h => (gN_ok hok h).2) i (by omega)
      refine g_iload_n C 0 rfl rfl dX5_doesDivide_8 ?_
      refine g_bipush C (v := (nI 6)) (by decide) dX5_doesDivide_9 ?_
      refine g_icmpN_ge C i 6 (by omega) (by omega) (tgt := 29) (by decide) dX5_doesDivide_11 (fun h11 => ?_) (fun h11 => ?_)
      ·
        have hiN : i = 6 := by omega
        subst hiN
        refine g_iload_n C 1 rfl rfl dX5_doesDivide_29 ?_
        refine g_ifN_ne C (gsm (gN (sg 45)) 6) (by omega) (tgt := 36) (by decide) dX5_doesDivide_30 (fun h30 => ?_) (fun h30 => absurd h30 hz)
        refine g_aload_n C 2 rfl rfl dX5_doesDivide_36 ?_
        refine g_getR C (j := 0) cls5 e_44 rfl (by decide) fl_X5_7 dX5_doesDivide_37 ?_
        refine g_bipush C (v := (nI 34)) (by decide) dX5_doesDivide_40 ?_
        refine g_ialdN C 34 e_45 (by decide) (by decide) dX5_doesDivide_42 ?_
        refine g_top (y := (sg 45 34)) rfl ?_
        refine g_istore_n C (L' := [(2, .int (sg 45 34)), (1, .int (nI (gsm (gN (sg 45)) 6))), (0, .ref (ad w 44))]) rfl (by decide) rfl dX5_doesDivide_43 ?_
        refine g_aload_n C 2 rfl rfl dX5_doesDivide_44 ?_
        refine g_callV0 [] C (c_X5_clearsCounters w tu (us sg 50 (fun d => whX ((sg 45) (6 + d)) ((dN (sg 45)) d + 1)))  ) mt_X5_clearsCounters e_44 rfl ml_X5_74 im_X5_clearsCounters se_X5_clearsCounters (by decide) rfl (Nat.le_of_ble_eq_true rfl) dX5_doesDivide_45 ?_
        refine g_eq (sg' := (us (us sg 50 (fun d => whX ((sg 45) (6 + d)) ((dN (sg 45)) d + 1))) 45 (fw 24 (fun _ => nI 0) (sg 45) 7))) (L' := [(2, .int (sg 45 34)), (1, .int (nI (gsm (gN (sg 45)) 6))), (0, .ref (ad w 44))]) (S' := []) rfl rfl rfl rfl ?_
        refine g_sgE (sg' := (us (us sg 50 (fun d => whX ((sg 45) (6 + d)) (dN (sg 45) d + 1))) 45 (ccR (sg 45)))) rfl ?_
        refine g_bipush C (v := (nI 6)) (by decide) dX5_doesDivide_48 ?_
        refine g_istore_n C (L' := [(3, .int (nI 6)), (2, .int (sg 45 34)), (1, .int (nI (gsm (gN (sg 45)) 6))), (0, .ref (ad w 44))]) rfl (by decide) rfl dX5_doesDivide_50 ?_
        have lp : ∀ (r : Nat) (f : Nat → Int32), r ≤ 7 → ROk f → dvF (gN (sg 45)) r f = dvF (gN (sg 45)) 7 (ccR (sg 45)) → dvB (gN (sg 45)) r f = dvB (gN (sg 45)) 7 (ccR (sg 45)) → G z w 5 (us (us sg 50 (fun d => whX ((sg 45) (6 + d)) (dN (sg 45) d + 1))) 45 f) tu 51 [(3, .int (nI r + (-1))), (2, .int (sg 45 34)), (1, .int (nI (gsm (gN (sg 45)) 6))), (0, .ref (ad w 44))] [] := by
          intro r
          induction r with
          | zero =>
            intro f hr hf hd hbb
            refine g_iload_n C 0 rfl rfl dX5_doesDivide_51 ?_
            refine g_if_lt C (tgt := 87) (by decide) dX5_doesDivide_52 (fun h52 => ?_) (fun h52 => absurd (by decide) h52)
            refine g_aload_n C 3 rfl rfl dX5_doesDivide_87 ?_
            refine g_getR C (j := 0) cls5 e_44 rfl (by decide) fl_X5_7 dX5_doesDivide_88 ?_
            refine g_bipush C (v := (nI 34)) (by decide) dX5_doesDivide_91 ?_
            refine g_ialdN C 34 e_45 (by decide) (by decide) dX5_doesDivide_93 ?_
            refine g_top (y := (f 34)) rfl ?_
            refine g_iload_n C 1 rfl rfl dX5_doesDivide_94 ?_
            refine g_isub C dX5_doesDivide_95 ?_
            exact g_iret C E dX5_doesDivide_96 (by rw [show f = dvF (gN (sg 45)) 7 (ccR (sg 45)) from hd, dvF_34 7 _ hb, ccR_out (by omega), Int32.add_comm]; exact Int32.add_sub_cancel _ _) (Sq.of (by rw [← hd]; rfl)) rfl
          | succ r ih =>
            intro f hr hf hd hbb
            refine g_eq (L' := [(3, .int (nI r)), (2, .int (sg 45 34)), (1, .int (nI (gsm (gN (sg 45)) 6))), (0, .ref (ad w 44))]) rfl rfl (by rw [pk_m1]) rfl ?_
            refine g_iload_n C 0 rfl rfl dX5_doesDivide_51 ?_
            refine g_if_lt C (tgt := 87) (by decide) dX5_doesDivide_52 (fun h52 => absurd h52 (nI_pos (by omega))) (fun h52 => ?_)
            refine g_aload_n C 3 rfl rfl dX5_doesDivide_55 ?_
            refine g_getR C (j := 0) cls5 e_44 rfl (by decide) fl_X5_7 dX5_doesDivide_56 ?_
            refine g_bipush C (v := (nI 31)) (by decide) dX5_doesDivide_59 ?_
            refine g_iload_n C 0 rfl rfl dX5_doesDivide_61 ?_
            refine g_iastN C 31 e_45 (by decide) (by decide) dX5_doesDivide_62 ?_
            refine g_sgE (sg' := (us (us sg 50 (fun d => whX ((sg 45) (6 + d)) (dN (sg 45) d + 1))) 45 (upd f 31 (nI r)))) us_us ?_
            refine g_sgE (sg' := (us (us sg 50 (fun d => whX ((sg 45) (6 + d)) (dN (sg 45) d + 1))) 45 (upd f 31 (nI r)))) rfl ?_
            refine g_aload_n C 3 rfl rfl dX5_doesDivide_63 ?_
            refine g_callV1 [] C (c_X5_downs0 w tu (us (us sg 50 (fun d => whX ((sg 45) (6 + d)) (dN (sg 45) d + 1))) 45 (upd f 31 (nI r)))  (gN (sg 45)) (sh_ok hf (by omega)) (fun d h => (gN_ok hok h).1) (fun _ h => (gN_ok hok h).2)) mt_X5_downs0 e_44 rfl ml_X5_86 im_X5_downs0 se_X5_downs0 (by decide) rfl (Nat.le_of_ble_eq_true rfl) dX5_doesDivide_64 ?_
            refine g_eq (sg' := (us (us (us sg 50 (fun d => whX ((sg 45) (6 + d)) (dN (sg 45) d + 1))) 45 (upd f 31 (nI r))) 45 (dwn (gN (sg 45)) 20 (upd f 31 (nI r))))) (L' := [(3, .int (nI r)), (2, .int (sg 45 34)), (1, .int (nI (gsm (gN (sg 45)) 6))), (0, .ref (ad w 44))]) (S' := [.int (bI (dwB (gN (sg 45)) 20 (upd f 31 (nI r)) = true))]) rfl rfl rfl rfl ?_
            refine g_sgE (sg' := (us (us sg 50 (fun d => whX ((sg 45) (6 + d)) (dN (sg 45) d + 1))) 45 (dwn (gN (sg 45)) 20 (upd f 31 (nI r))))) us_us ?_
            refine g_bif_ne C (tgt := 73) (by decide) dX5_doesDivide_67 (fun h67 => ?_) (fun h67 => ?_)
            ·
              refine g_aload_n C 3 rfl rfl dX5_doesDivide_73 ?_
              refine g_iconst C (v := (nI 1)) (by decide) dX5_doesDivide_74 ?_
              refine g_iconst C (v := (-1)) (by decide) dX5_doesDivide_75 ?_
              refine g_callV1 [] C (c_X5_turnsOnce_up w tu (us (us sg 50 (fun d => whX ((sg 45) (6 + d)) (dN (sg 45) d + 1))) 45 (dwn (gN (sg 45)) 20 (upd f 31 (nI r)))) (-1) (gN (sg 45)) (dwn_ok (fun _ h => (gN_ok hok h).2) 20 _ (sh_ok hf (by omega))) (fun d h => (gN_ok hok h).1) (fun _ h => (gN_ok hok h).2)) mt_X5_turnsOnce e_44 rfl ml_X5_70 im_X5_turnsOnce se_X5_turnsOnce (by decide) rfl (Nat.le_of_ble_eq_true rfl) dX5_doesDivide_76 ?_
              refine g_eq (sg' := (us (us (us sg 50 (fun d => whX ((sg 45) (6 + d)) (dN (sg 45) d + 1))) 45 (dwn (gN (sg 45)) 20 (upd f 31 (nI r)))) 45 (tR true (-1) (gN (sg 45)) (dwn (gN (sg 45)) 20 (upd f 31 (nI r)))))) (L' := [(3, .int (nI r)), (2, .int (sg 45 34)), (1, .int (nI (gsm (gN (sg 45)) 6))), (0, .ref (ad w 44))]) (S' := [.int (bI (blP true (wN (dwn (gN (sg 45)) 20 (upd f 31 (nI r)))) (gN (sg 45)) (sN (dwn (gN (sg 45)) 20 (upd f 31 (nI r)))) (sN (dwn (gN (sg 45)) 20 (upd f 31 (nI r))) + 5 + reN (dwn (gN (sg 45)) 20 (upd f 31 (nI r))))))]) rfl rfl rfl rfl ?_
              refine g_istore C (L' := [(4, .int (bI (blP true (wN (dwn (gN (sg 45)) 20 (upd f 31 (nI r)))) (gN (sg 45)) (sN (dwn (gN (sg 45)) 20 (upd f 31 (nI r)))) (sN (dwn (gN (sg 45)) 20 (upd f 31 (nI r))) + 5 + reN (dwn (gN (sg 45)) 20 (upd f 31 (nI r))))))), (3, .int (nI r)), (2, .int (sg 45 34)), (1, .int (nI (gsm (gN (sg 45)) 6))), (0, .ref (ad w 44))]) (by decide) rfl dX5_doesDivide_79 ?_
              refine g_iinc C (n := -1) (v := ((nI r) + (-1))) (L' := [(3, .int ((nI r) + (-1))), (4, .int (bI (blP true (wN (dwn (gN (sg 45)) 20 (upd f 31 (nI r)))) (gN (sg 45)) (sN (dwn (gN (sg 45)) 20 (upd f 31 (nI r)))) (sN (dwn (gN (sg 45)) 20 (upd f 31 (nI r))) + 5 + reN (dwn (gN (sg 45)) 20 (upd f 31 (nI r))))))), (2, .int (sg 45 34)), (1, .int (nI (gsm (gN (sg 45)) 6))), (0, .ref (ad w 44))]) 1 rfl rfl (by decide) rfl dX5_doesDivide_81 ?_
              refine g_goto C (tgt := 51) (by decide) dX5_doesDivide_84 ?_
              refine g_sub (L' := [(3, .int ((nI r) + (-1))), (2, .int (sg 45 34)), (1, .int (nI (gsm (gN (sg 45)) 6))), (0, .ref (ad w 44))]) [0, 2, 3, 4] rfl ?_
              refine g_sgE (sg' := (us (us sg 50 (fun d => whX ((sg 45) (6 + d)) (dN (sg 45) d + 1))) 45 (tR true (-1) (gN (sg 45)) (dwn (gN (sg 45)) 20 (upd f 31 (nI r)))))) us_us ?_
              exact ih _ (by omega) (dv_step_ok hf (fun _ h => (gN_ok hok h).2) (by omega)) (by rw [← hd, dvF_t h67]) (by rw [← hbb, dvB_t h67])
            ·
              rw [dvB_f h67, hb] at hbb
              cases hbb
        refine g_eq (L' := [(3, .int (nI 7 + (-1))), (2, .int (sg 45 34)), (1, .int (nI (gsm (gN (sg 45)) 6))), (0, .ref (ad w 44))]) rfl rfl rfl rfl ?_
        refine g_sub (L' := [(3, .int (nI 7 + (-1))), (2, .int (sg 45 34)), (1, .int (nI (gsm (gN (sg 45)) 6))), (0, .ref (ad w 44))]) [0, 1, 2, 3] rfl ?_
        exact lp 7 _ (Nat.le_refl _) (ccR_ok hok) rfl rfl
      ·
        refine g_iload_n C 1 rfl rfl dX5_doesDivide_14 ?_
        refine g_aload_n C 2 rfl rfl dX5_doesDivide_15 ?_
        refine g_getR C (j := 7) cls5 e_44 rfl (by decide) fl_X5_25 dX5_doesDivide_16 ?_
        refine g_iload_n C 0 rfl rfl dX5_doesDivide_19 ?_
        refine g_ialdN C i e_50 (by omega) (by decide) dX5_doesDivide_20 ?_
        refine g_top (y := ((fun d => whX ((sg 45) (6 + d)) ((dN (sg 45)) d + 1)) i)) rfl ?_
        refine g_top (y := (nI (gN (sg 45) i))) (gN_ok hok (by omega)).1 ?_
        refine g_iadd C dX5_doesDivide_21 ?_
        refine g_top (y := (nI ((gsm (gN (sg 45)) i) + (gN (sg 45) i)))) (nI_add (gsm (gN (sg 45)) i) (gN (sg 45) i)) ?_
        refine g_istore_n C (L' := [(1, .int (nI ((gsm (gN (sg 45)) i) + (gN (sg 45) i)))), (2, .int (nI i)), (0, .ref (ad w 44))]) rfl (by decide) rfl dX5_doesDivide_22 ?_
        refine g_iinc C (n := 1) (v := (nI (i + 1))) (L' := [(2, .int (nI (i + 1))), (1, .int (nI ((gsm (gN (sg 45)) i) + (gN (sg 45) i)))), (0, .ref (ad w 44))]) 1 rfl (nI_add i 1) (by decide) rfl dX5_doesDivide_23 ?_
        refine g_goto C (tgt := 8) (by decide) dX5_doesDivide_26 ?_
        refine g_sub (L' := [(2, .int (nI (i + 1))), (1, .int (nI ((gsm (gN (sg 45)) i) + (gN (sg 45) i)))), (0, .ref (ad w 44))]) [0, 1, 2] rfl ?_
        refine g_eq (L' := [(2, .int (nI (i + 1))), (1, .int (nI (gsm (gN (sg 45)) (i + 1)))), (0, .ref (ad w 44))]) rfl rfl rfl rfl ?_
        exact ih (i + 1)  (by omega) (by omega) trivial
  exact lps (6 + 1) 0  (by omega) (by omega) trivial
set_option maxRecDepth 100000 in
set_option maxHeartbeats 4000000 in
theorem c_X5_doesDivide_no (w : GW) (tu : Int64) (sg : Sg) (hok : ROk (sg 45)) (hz : ¬ gsm (gN (sg 45)) 6 = 0) (hb : dvB (gN (sg 45)) 7 (ccR (sg 45)) = false) : Kt w yX5_doesDivide cX5_doesDivide 5 (some .int) 3 [.ref (ad w 44)] sg tu (some (.int (-3))) (us (us sg 50 (fun d => whX ((sg 45) (6 + d)) (dN (sg 45) d + 1))) 45 (dvF (gN (sg 45)) 7 (ccR (sg 45)))) tu := by
  refine Kt.of2 RX5 rfl [(0, .ref (ad w 44))] (by decide) rfl (Nat.le_of_ble_eq_true rfl) (fun z C E => ?_)
  refine g_aload_n C 0 rfl rfl dX5_doesDivide_0 ?_
  refine g_callV0 [] C (c_X5_laysGives w tu sg  (dN (sg 45)) hok.1) mt_X5_laysGives e_44 rfl ml_X5_67 im_X5_laysGives se_X5_laysGives (by decide) rfl (Nat.le_of_ble_eq_true rfl) dX5_doesDivide_1 ?_
  refine g_eq (sg' := (us sg 50 (fun d => whX ((sg 45) (6 + d)) ((dN (sg 45)) d + 1)))) (L' := [(0, .ref (ad w 44))]) (S' := []) rfl rfl rfl rfl ?_
  refine g_iconst C (v := (nI 0)) (by decide) dX5_doesDivide_4 ?_
  refine g_istore_n C (L' := [(1, .int (nI 0)), (0, .ref (ad w 44))]) rfl (by decide) rfl dX5_doesDivide_5 ?_
  refine g_iconst C (v := (nI 0)) (by decide) dX5_doesDivide_6 ?_
  refine g_istore_n C (L' := [(2, .int (nI 0)), (1, .int (nI 0)), (0, .ref (ad w 44))]) rfl (by decide) rfl dX5_doesDivide_7 ?_
  have lps : ∀ (nf i : Nat), 6 < i + nf → i ≤ 6 → (True) → G z w 5 (us sg 50 (fun d => whX ((sg 45) (6 + d)) ((dN (sg 45)) d + 1))) tu 8 [(2, .int (nI i)), (1, .int (nI (gsm (gN (sg 45)) i))), (0, .ref (ad w 44))] [] := by
    intro nf
    induction nf with
    | zero => intro i  h1 h2 hI; exact absurd h1 (by omega)
    | succ nf ih =>
      intro i  h1 h2 hI
      have hgs := gsm_le (fun _ h => (gN_ok hok h).2) i (by omega)
      refine g_iload_n C 0 rfl rfl dX5_doesDivide_8 ?_
      refine g_bipush C (v := (nI 6)) (by decide) dX5_doesDivide_9 ?_
      refine g_icmpN_ge C i 6 (by omega) (by omega) (tgt := 29) (by decide) dX5_doesDivide_11 (fun h11 => ?_) (fun h11 => ?_)
      ·
        have hiN : i = 6 := by omega
        subst hiN
        refine g_iload_n C 1 rfl rfl dX5_doesDivide_29 ?_
        refine g_ifN_ne C (gsm (gN (sg 45)) 6) (by omega) (tgt := 36) (by decide) dX5_doesDivide_30 (fun h30 => ?_) (fun h30 => absurd h30 hz)
        refine g_aload_n C 2 rfl rfl dX5_doesDivide_36 ?_
        refine g_getR C (j := 0) cls5 e_44 rfl (by decide) fl_X5_7 dX5_doesDivide_37 ?_
        refine g_bipush C (v := (nI 34)) (by decide) dX5_doesDivide_40 ?_
        refine g_ialdN C 34 e_45 (by decide) (by decide) dX5_doesDivide_42 ?_
        refine g_top (y := (sg 45 34)) rfl ?_
        refine g_istore_n C (L' := [(2, .int (sg 45 34)), (1, .int (nI (gsm (gN (sg 45)) 6))), (0, .ref (ad w 44))]) rfl (by decide) rfl dX5_doesDivide_43 ?_
        refine g_aload_n C 2 rfl rfl dX5_doesDivide_44 ?_
        refine g_callV0 [] C (c_X5_clearsCounters w tu (us sg 50 (fun d => whX ((sg 45) (6 + d)) ((dN (sg 45)) d + 1)))  ) mt_X5_clearsCounters e_44 rfl ml_X5_74 im_X5_clearsCounters se_X5_clearsCounters (by decide) rfl (Nat.le_of_ble_eq_true rfl) dX5_doesDivide_45 ?_
        refine g_eq (sg' := (us (us sg 50 (fun d => whX ((sg 45) (6 + d)) ((dN (sg 45)) d + 1))) 45 (fw 24 (fun _ => nI 0) (sg 45) 7))) (L' := [(2, .int (sg 45 34)), (1, .int (nI (gsm (gN (sg 45)) 6))), (0, .ref (ad w 44))]) (S' := []) rfl rfl rfl rfl ?_
        refine g_sgE (sg' := (us (us sg 50 (fun d => whX ((sg 45) (6 + d)) (dN (sg 45) d + 1))) 45 (ccR (sg 45)))) rfl ?_
        refine g_bipush C (v := (nI 6)) (by decide) dX5_doesDivide_48 ?_
        refine g_istore_n C (L' := [(3, .int (nI 6)), (2, .int (sg 45 34)), (1, .int (nI (gsm (gN (sg 45)) 6))), (0, .ref (ad w 44))]) rfl (by decide) rfl dX5_doesDivide_50 ?_
        have lp : ∀ (r : Nat) (f : Nat → Int32), r ≤ 7 → ROk f → dvF (gN (sg 45)) r f = dvF (gN (sg 45)) 7 (ccR (sg 45)) → dvB (gN (sg 45)) r f = dvB (gN (sg 45)) 7 (ccR (sg 45)) → G z w 5 (us (us sg 50 (fun d => whX ((sg 45) (6 + d)) (dN (sg 45) d + 1))) 45 f) tu 51 [(3, .int (nI r + (-1))), (2, .int (sg 45 34)), (1, .int (nI (gsm (gN (sg 45)) 6))), (0, .ref (ad w 44))] [] := by
          intro r
          induction r with
          | zero =>
            intro f hr hf hd hbb
            rw [hb] at hbb
            cases hbb
          | succ r ih =>
            intro f hr hf hd hbb
            refine g_eq (L' := [(3, .int (nI r)), (2, .int (sg 45 34)), (1, .int (nI (gsm (gN (sg 45)) 6))), (0, .ref (ad w 44))]) rfl rfl (by rw [pk_m1]) rfl ?_
            refine g_iload_n C 0 rfl rfl dX5_doesDivide_51 ?_
            refine g_if_lt C (tgt := 87) (by decide) dX5_doesDivide_52 (fun h52 => absurd h52 (nI_pos (by omega))) (fun h52 => ?_)
            refine g_aload_n C 3 rfl rfl dX5_doesDivide_55 ?_
            refine g_getR C (j := 0) cls5 e_44 rfl (by decide) fl_X5_7 dX5_doesDivide_56 ?_
            refine g_bipush C (v := (nI 31)) (by decide) dX5_doesDivide_59 ?_
            refine g_iload_n C 0 rfl rfl dX5_doesDivide_61 ?_
            refine g_iastN C 31 e_45 (by decide) (by decide) dX5_doesDivide_62 ?_
            refine g_sgE (sg' := (us (us sg 50 (fun d => whX ((sg 45) (6 + d)) (dN (sg 45) d + 1))) 45 (upd f 31 (nI r)))) us_us ?_
            refine g_sgE (sg' := (us (us sg 50 (fun d => whX ((sg 45) (6 + d)) (dN (sg 45) d + 1))) 45 (upd f 31 (nI r)))) rfl ?_
            refine g_aload_n C 3 rfl rfl dX5_doesDivide_63 ?_
            refine g_callV1 [] C (c_X5_downs0 w tu (us (us sg 50 (fun d => whX ((sg 45) (6 + d)) (dN (sg 45) d + 1))) 45 (upd f 31 (nI r)))  (gN (sg 45)) (sh_ok hf (by omega)) (fun d h => (gN_ok hok h).1) (fun _ h => (gN_ok hok h).2)) mt_X5_downs0 e_44 rfl ml_X5_86 im_X5_downs0 se_X5_downs0 (by decide) rfl (Nat.le_of_ble_eq_true rfl) dX5_doesDivide_64 ?_
            refine g_eq (sg' := (us (us (us sg 50 (fun d => whX ((sg 45) (6 + d)) (dN (sg 45) d + 1))) 45 (upd f 31 (nI r))) 45 (dwn (gN (sg 45)) 20 (upd f 31 (nI r))))) (L' := [(3, .int (nI r)), (2, .int (sg 45 34)), (1, .int (nI (gsm (gN (sg 45)) 6))), (0, .ref (ad w 44))]) (S' := [.int (bI (dwB (gN (sg 45)) 20 (upd f 31 (nI r)) = true))]) rfl rfl rfl rfl ?_
            refine g_sgE (sg' := (us (us sg 50 (fun d => whX ((sg 45) (6 + d)) (dN (sg 45) d + 1))) 45 (dwn (gN (sg 45)) 20 (upd f 31 (nI r))))) us_us ?_
            refine g_bif_ne C (tgt := 73) (by decide) dX5_doesDivide_67 (fun h67 => ?_) (fun h67 => ?_)
            ·
              refine g_aload_n C 3 rfl rfl dX5_doesDivide_73 ?_
              refine g_iconst C (v := (nI 1)) (by decide) dX5_doesDivide_74 ?_
              refine g_iconst C (v := (-1)) (by decide) dX5_doesDivide_75 ?_
              refine g_callV1 [] C (c_X5_turnsOnce_up w tu (us (us sg 50 (fun d => whX ((sg 45) (6 + d)) (dN (sg 45) d + 1))) 45 (dwn (gN (sg 45)) 20 (upd f 31 (nI r)))) (-1) (gN (sg 45)) (dwn_ok (fun _ h => (gN_ok hok h).2) 20 _ (sh_ok hf (by omega))) (fun d h => (gN_ok hok h).1) (fun _ h => (gN_ok hok h).2)) mt_X5_turnsOnce e_44 rfl ml_X5_70 im_X5_turnsOnce se_X5_turnsOnce (by decide) rfl (Nat.le_of_ble_eq_true rfl) dX5_doesDivide_76 ?_
              refine g_eq (sg' := (us (us (us sg 50 (fun d => whX ((sg 45) (6 + d)) (dN (sg 45) d + 1))) 45 (dwn (gN (sg 45)) 20 (upd f 31 (nI r)))) 45 (tR true (-1) (gN (sg 45)) (dwn (gN (sg 45)) 20 (upd f 31 (nI r)))))) (L' := [(3, .int (nI r)), (2, .int (sg 45 34)), (1, .int (nI (gsm (gN (sg 45)) 6))), (0, .ref (ad w 44))]) (S' := [.int (bI (blP true (wN (dwn (gN (sg 45)) 20 (upd f 31 (nI r)))) (gN (sg 45)) (sN (dwn (gN (sg 45)) 20 (upd f 31 (nI r)))) (sN (dwn (gN (sg 45)) 20 (upd f 31 (nI r))) + 5 + reN (dwn (gN (sg 45)) 20 (upd f 31 (nI r))))))]) rfl rfl rfl rfl ?_
              refine g_istore C (L' := [(4, .int (bI (blP true (wN (dwn (gN (sg 45)) 20 (upd f 31 (nI r)))) (gN (sg 45)) (sN (dwn (gN (sg 45)) 20 (upd f 31 (nI r)))) (sN (dwn (gN (sg 45)) 20 (upd f 31 (nI r))) + 5 + reN (dwn (gN (sg 45)) 20 (upd f 31 (nI r))))))), (3, .int (nI r)), (2, .int (sg 45 34)), (1, .int (nI (gsm (gN (sg 45)) 6))), (0, .ref (ad w 44))]) (by decide) rfl dX5_doesDivide_79 ?_
              refine g_iinc C (n := -1) (v := ((nI r) + (-1))) (L' := [(3, .int ((nI r) + (-1))), (4, .int (bI (blP true (wN (dwn (gN (sg 45)) 20 (upd f 31 (nI r)))) (gN (sg 45)) (sN (dwn (gN (sg 45)) 20 (upd f 31 (nI r)))) (sN (dwn (gN (sg 45)) 20 (upd f 31 (nI r))) + 5 + reN (dwn (gN (sg 45)) 20 (upd f 31 (nI r))))))), (2, .int (sg 45 34)), (1, .int (nI (gsm (gN (sg 45)) 6))), (0, .ref (ad w 44))]) 1 rfl rfl (by decide) rfl dX5_doesDivide_81 ?_
              refine g_goto C (tgt := 51) (by decide) dX5_doesDivide_84 ?_
              refine g_sub (L' := [(3, .int ((nI r) + (-1))), (2, .int (sg 45 34)), (1, .int (nI (gsm (gN (sg 45)) 6))), (0, .ref (ad w 44))]) [0, 2, 3, 4] rfl ?_
              refine g_sgE (sg' := (us (us sg 50 (fun d => whX ((sg 45) (6 + d)) (dN (sg 45) d + 1))) 45 (tR true (-1) (gN (sg 45)) (dwn (gN (sg 45)) 20 (upd f 31 (nI r)))))) us_us ?_
              exact ih _ (by omega) (dv_step_ok hf (fun _ h => (gN_ok hok h).2) (by omega)) (by rw [← hd, dvF_t h67]) (by rw [← hbb, dvB_t h67])
            ·
              refine g_bipush C (v := (-3)) (by decide) dX5_doesDivide_70 ?_
              exact g_iret C E dX5_doesDivide_72 rfl (Sq.of (by rw [← hd, dvF_f h67])) rfl
        refine g_eq (L' := [(3, .int (nI 7 + (-1))), (2, .int (sg 45 34)), (1, .int (nI (gsm (gN (sg 45)) 6))), (0, .ref (ad w 44))]) rfl rfl rfl rfl ?_
        refine g_sub (L' := [(3, .int (nI 7 + (-1))), (2, .int (sg 45 34)), (1, .int (nI (gsm (gN (sg 45)) 6))), (0, .ref (ad w 44))]) [0, 1, 2, 3] rfl ?_
        exact lp 7 _ (Nat.le_refl _) (ccR_ok hok) rfl rfl
      ·
        refine g_iload_n C 1 rfl rfl dX5_doesDivide_14 ?_
        refine g_aload_n C 2 rfl rfl dX5_doesDivide_15 ?_
        refine g_getR C (j := 7) cls5 e_44 rfl (by decide) fl_X5_25 dX5_doesDivide_16 ?_
        refine g_iload_n C 0 rfl rfl dX5_doesDivide_19 ?_
        refine g_ialdN C i e_50 (by omega) (by decide) dX5_doesDivide_20 ?_
        refine g_top (y := ((fun d => whX ((sg 45) (6 + d)) ((dN (sg 45)) d + 1)) i)) rfl ?_
        refine g_top (y := (nI (gN (sg 45) i))) (gN_ok hok (by omega)).1 ?_
        refine g_iadd C dX5_doesDivide_21 ?_
        refine g_top (y := (nI ((gsm (gN (sg 45)) i) + (gN (sg 45) i)))) (nI_add (gsm (gN (sg 45)) i) (gN (sg 45) i)) ?_
        refine g_istore_n C (L' := [(1, .int (nI ((gsm (gN (sg 45)) i) + (gN (sg 45) i)))), (2, .int (nI i)), (0, .ref (ad w 44))]) rfl (by decide) rfl dX5_doesDivide_22 ?_
        refine g_iinc C (n := 1) (v := (nI (i + 1))) (L' := [(2, .int (nI (i + 1))), (1, .int (nI ((gsm (gN (sg 45)) i) + (gN (sg 45) i)))), (0, .ref (ad w 44))]) 1 rfl (nI_add i 1) (by decide) rfl dX5_doesDivide_23 ?_
        refine g_goto C (tgt := 8) (by decide) dX5_doesDivide_26 ?_
        refine g_sub (L' := [(2, .int (nI (i + 1))), (1, .int (nI ((gsm (gN (sg 45)) i) + (gN (sg 45) i)))), (0, .ref (ad w 44))]) [0, 1, 2] rfl ?_
        refine g_eq (L' := [(2, .int (nI (i + 1))), (1, .int (nI (gsm (gN (sg 45)) (i + 1)))), (0, .ref (ad w 44))]) rfl rfl rfl rfl ?_
        exact ih (i + 1)  (by omega) (by omega) trivial
  exact lps (6 + 1) 0  (by omega) (by omega) trivial
end
