-- ===== PART A: goes FIRST, ahead of the names: the tables' words, and 'selects' of the private methods out of them =====
/-- a private method of a class that the tables say can be made, by its rows of tables_1 -/
def lw_okq (q : MethodName × Nat) : Prop := (q.1.cls ≠ "java/lang/invoke/MethodHandle" ∧ q.1.cls ≠ "java/lang/invoke/VarHandle") ∧ Cond.instantiable q.1.cls q.2 ∈ tables_1 ∧ Cond.privateMethod q.1 ∈ tables_1 ∧ Cond.instanceMethod q.1 ∈ tables_1
theorem lw_p0 : lw_okq (⟨"DrumCrank", "remember", "()V"⟩, 8) := ⟨⟨by decide +kernel, by decide +kernel⟩, List.mem_of_getElem? (i := 12) (by decide +kernel), List.mem_of_getElem? (i := 148) (by decide +kernel), List.mem_of_getElem? (i := 149) (by decide +kernel)⟩
theorem lw_p1 : lw_okq (⟨"DrumCrank", "settled", "(I)I"⟩, 8) := ⟨⟨by decide +kernel, by decide +kernel⟩, List.mem_of_getElem? (i := 12) (by decide +kernel), List.mem_of_getElem? (i := 168) (by decide +kernel), List.mem_of_getElem? (i := 169) (by decide +kernel)⟩
theorem lw_p2 : lw_okq (⟨"DrumCrank", "counted", "(I)I"⟩, 8) := ⟨⟨by decide +kernel, by decide +kernel⟩, List.mem_of_getElem? (i := 12) (by decide +kernel), List.mem_of_getElem? (i := 172) (by decide +kernel), List.mem_of_getElem? (i := 173) (by decide +kernel)⟩
theorem lw_p3 : lw_okq (⟨"DrumCrank$Works", "turnOnce", "(II)Z"⟩, 8) := ⟨⟨by decide +kernel, by decide +kernel⟩, List.mem_of_getElem? (i := 20) (by decide +kernel), List.mem_of_getElem? (i := 261) (by decide +kernel), List.mem_of_getElem? (i := 262) (by decide +kernel)⟩
theorem lw_p4 : lw_okq (⟨"DrumCrank$Works", "given", "(I)I"⟩, 8) := ⟨⟨by decide +kernel, by decide +kernel⟩, List.mem_of_getElem? (i := 20) (by decide +kernel), List.mem_of_getElem? (i := 265) (by decide +kernel), List.mem_of_getElem? (i := 266) (by decide +kernel)⟩
theorem lw_p5 : lw_okq (⟨"DrumCrank$Works", "turnDownTillBell", "()Z"⟩, 8) := ⟨⟨by decide +kernel, by decide +kernel⟩, List.mem_of_getElem? (i := 20) (by decide +kernel), List.mem_of_getElem? (i := 311) (by decide +kernel), List.mem_of_getElem? (i := 312) (by decide +kernel)⟩
theorem lw_p6 : lw_okq (⟨"DrumCrank$Works", "wornTeeth", "()I"⟩, 8) := ⟨⟨by decide +kernel, by decide +kernel⟩, List.mem_of_getElem? (i := 20) (by decide +kernel), List.mem_of_getElem? (i := 358) (by decide +kernel), List.mem_of_getElem? (i := 359) (by decide +kernel)⟩
theorem lw_p7 : lw_okq (⟨"DrumCrank$Orders", "readOrder", "(LDrumCrank$Text;I)Z"⟩, 6) := ⟨⟨by decide +kernel, by decide +kernel⟩, List.mem_of_getElem? (i := 90) (by decide +kernel), List.mem_of_getElem? (i := 411) (by decide +kernel), List.mem_of_getElem? (i := 412) (by decide +kernel)⟩
theorem lw_p8 : lw_okq (⟨"DrumCrank$Orders", "skipBlanks", "(LDrumCrank$Text;)V"⟩, 6) := ⟨⟨by decide +kernel, by decide +kernel⟩, List.mem_of_getElem? (i := 90) (by decide +kernel), List.mem_of_getElem? (i := 415) (by decide +kernel), List.mem_of_getElem? (i := 416) (by decide +kernel)⟩
theorem lw_p9 : lw_okq (⟨"DrumCrank$Orders", "readNumber", "(LDrumCrank$Text;)Z"⟩, 6) := ⟨⟨by decide +kernel, by decide +kernel⟩, List.mem_of_getElem? (i := 90) (by decide +kernel), List.mem_of_getElem? (i := 426) (by decide +kernel), List.mem_of_getElem? (i := 427) (by decide +kernel)⟩
theorem lw_p10 : lw_okq (⟨"DrumCrank", "perform", "(III)I"⟩, 8) := ⟨⟨by decide +kernel, by decide +kernel⟩, List.mem_of_getElem? (i := 12) (by decide +kernel), List.mem_of_getElem? (i := 436) (by decide +kernel), List.mem_of_getElem? (i := 437) (by decide +kernel)⟩
theorem lw_p11 : lw_okq (⟨"DrumCrankModel", "refuses", "(I)I"⟩, 16) := ⟨⟨by decide +kernel, by decide +kernel⟩, List.mem_of_getElem? (i := 466) (by decide +kernel), List.mem_of_getElem? (i := 525) (by decide +kernel), List.mem_of_getElem? (i := 526) (by decide +kernel)⟩
theorem lw_p12 : lw_okq (⟨"DrumCrankModel", "laysAside", "()V"⟩, 16) := ⟨⟨by decide +kernel, by decide +kernel⟩, List.mem_of_getElem? (i := 466) (by decide +kernel), List.mem_of_getElem? (i := 533) (by decide +kernel), List.mem_of_getElem? (i := 534) (by decide +kernel)⟩
theorem lw_p13 : lw_okq (⟨"DrumCrankModel", "putDigit", "(II)I"⟩, 16) := ⟨⟨by decide +kernel, by decide +kernel⟩, List.mem_of_getElem? (i := 466) (by decide +kernel), List.mem_of_getElem? (i := 537) (by decide +kernel), List.mem_of_getElem? (i := 538) (by decide +kernel)⟩
theorem lw_p14 : lw_okq (⟨"DrumCrankModel", "change", "(II)I"⟩, 16) := ⟨⟨by decide +kernel, by decide +kernel⟩, List.mem_of_getElem? (i := 466) (by decide +kernel), List.mem_of_getElem? (i := 549) (by decide +kernel), List.mem_of_getElem? (i := 550) (by decide +kernel)⟩
theorem lw_p15 : lw_okq (⟨"DrumCrankModel", "finished", "(I)I"⟩, 16) := ⟨⟨by decide +kernel, by decide +kernel⟩, List.mem_of_getElem? (i := 466) (by decide +kernel), List.mem_of_getElem? (i := 553) (by decide +kernel), List.mem_of_getElem? (i := 554) (by decide +kernel)⟩
def lw_privs_1 : List (MethodName × Nat) := [(⟨"DrumCrank", "remember", "()V"⟩, 8), (⟨"DrumCrank", "settled", "(I)I"⟩, 8), (⟨"DrumCrank", "counted", "(I)I"⟩, 8), (⟨"DrumCrank$Works", "turnOnce", "(II)Z"⟩, 8), (⟨"DrumCrank$Works", "given", "(I)I"⟩, 8), (⟨"DrumCrank$Works", "turnDownTillBell", "()Z"⟩, 8), (⟨"DrumCrank$Works", "wornTeeth", "()I"⟩, 8), (⟨"DrumCrank$Orders", "readOrder", "(LDrumCrank$Text;I)Z"⟩, 6), (⟨"DrumCrank$Orders", "skipBlanks", "(LDrumCrank$Text;)V"⟩, 6), (⟨"DrumCrank$Orders", "readNumber", "(LDrumCrank$Text;)Z"⟩, 6), (⟨"DrumCrank", "perform", "(III)I"⟩, 8), (⟨"DrumCrankModel", "refuses", "(I)I"⟩, 16), (⟨"DrumCrankModel", "laysAside", "()V"⟩, 16), (⟨"DrumCrankModel", "putDigit", "(II)I"⟩, 16), (⟨"DrumCrankModel", "change", "(II)I"⟩, 16), (⟨"DrumCrankModel", "finished", "(I)I"⟩, 16)]
theorem lw_r1 : ∀ q ∈ lw_privs_1, lw_okq q := List.forall_mem_cons.mpr ⟨lw_p0, List.forall_mem_cons.mpr ⟨lw_p1, List.forall_mem_cons.mpr ⟨lw_p2, List.forall_mem_cons.mpr ⟨lw_p3, List.forall_mem_cons.mpr ⟨lw_p4, List.forall_mem_cons.mpr ⟨lw_p5, List.forall_mem_cons.mpr ⟨lw_p6, List.forall_mem_cons.mpr ⟨lw_p7, List.forall_mem_cons.mpr ⟨lw_p8, List.forall_mem_cons.mpr ⟨lw_p9, List.forall_mem_cons.mpr ⟨lw_p10, List.forall_mem_cons.mpr ⟨lw_p11, List.forall_mem_cons.mpr ⟨lw_p12, List.forall_mem_cons.mpr ⟨lw_p13, List.forall_mem_cons.mpr ⟨lw_p14, List.forall_mem_cons.mpr ⟨lw_p15, fun _ h => absurd h List.not_mem_nil⟩⟩⟩⟩⟩⟩⟩⟩⟩⟩⟩⟩⟩⟩⟩⟩
theorem lw_p16 : lw_okq (⟨"DrumCrankModel", "remembers", "()V"⟩, 16) := ⟨⟨by decide +kernel, by decide +kernel⟩, List.mem_of_getElem? (i := 466) (by decide +kernel), List.mem_of_getElem? (i := 557) (by decide +kernel), List.mem_of_getElem? (i := 558) (by decide +kernel)⟩
theorem lw_p17 : lw_okq (⟨"DrumCrankModel", "putInput", "(I)I"⟩, 16) := ⟨⟨by decide +kernel, by decide +kernel⟩, List.mem_of_getElem? (i := 466) (by decide +kernel), List.mem_of_getElem? (i := 565) (by decide +kernel), List.mem_of_getElem? (i := 566) (by decide +kernel)⟩
theorem lw_p18 : lw_okq (⟨"DrumCrankModel", "putShift", "(I)I"⟩, 16) := ⟨⟨by decide +kernel, by decide +kernel⟩, List.mem_of_getElem? (i := 466) (by decide +kernel), List.mem_of_getElem? (i := 577) (by decide +kernel), List.mem_of_getElem? (i := 578) (by decide +kernel)⟩
theorem lw_p19 : lw_okq (⟨"DrumCrankModel", "putReach", "(I)I"⟩, 16) := ⟨⟨by decide +kernel, by decide +kernel⟩, List.mem_of_getElem? (i := 466) (by decide +kernel), List.mem_of_getElem? (i := 586) (by decide +kernel), List.mem_of_getElem? (i := 587) (by decide +kernel)⟩
theorem lw_p20 : lw_okq (⟨"DrumCrankModel", "putWorn", "(II)I"⟩, 16) := ⟨⟨by decide +kernel, by decide +kernel⟩, List.mem_of_getElem? (i := 466) (by decide +kernel), List.mem_of_getElem? (i := 595) (by decide +kernel), List.mem_of_getElem? (i := 596) (by decide +kernel)⟩
theorem lw_p21 : lw_okq (⟨"DrumCrankModel", "clearsAll", "()I"⟩, 16) := ⟨⟨by decide +kernel, by decide +kernel⟩, List.mem_of_getElem? (i := 466) (by decide +kernel), List.mem_of_getElem? (i := 606) (by decide +kernel), List.mem_of_getElem? (i := 607) (by decide +kernel)⟩
theorem lw_p22 : lw_okq (⟨"DrumCrankModel", "clearsCounters", "()V"⟩, 16) := ⟨⟨by decide +kernel, by decide +kernel⟩, List.mem_of_getElem? (i := 466) (by decide +kernel), List.mem_of_getElem? (i := 610) (by decide +kernel), List.mem_of_getElem? (i := 611) (by decide +kernel)⟩
theorem lw_p23 : lw_okq (⟨"DrumCrankModel", "putWheels", "(J)I"⟩, 16) := ⟨⟨by decide +kernel, by decide +kernel⟩, List.mem_of_getElem? (i := 466) (by decide +kernel), List.mem_of_getElem? (i := 618) (by decide +kernel), List.mem_of_getElem? (i := 619) (by decide +kernel)⟩
theorem lw_p24 : lw_okq (⟨"DrumCrankModel", "doesTurns", "(II)I"⟩, 16) := ⟨⟨by decide +kernel, by decide +kernel⟩, List.mem_of_getElem? (i := 466) (by decide +kernel), List.mem_of_getElem? (i := 628) (by decide +kernel), List.mem_of_getElem? (i := 629) (by decide +kernel)⟩
theorem lw_p25 : lw_okq (⟨"DrumCrankModel", "laysGives", "()V"⟩, 16) := ⟨⟨by decide +kernel, by decide +kernel⟩, List.mem_of_getElem? (i := 466) (by decide +kernel), List.mem_of_getElem? (i := 633) (by decide +kernel), List.mem_of_getElem? (i := 634) (by decide +kernel)⟩
theorem lw_p26 : lw_okq (⟨"DrumCrankModel", "turnsOnce", "(II)Z"⟩, 16) := ⟨⟨by decide +kernel, by decide +kernel⟩, List.mem_of_getElem? (i := 466) (by decide +kernel), List.mem_of_getElem? (i := 640) (by decide +kernel), List.mem_of_getElem? (i := 641) (by decide +kernel)⟩
theorem lw_p27 : lw_okq (⟨"DrumCrankModel", "turnsBy", "([IIII)Z"⟩, 16) := ⟨⟨by decide +kernel, by decide +kernel⟩, List.mem_of_getElem? (i := 466) (by decide +kernel), List.mem_of_getElem? (i := 644) (by decide +kernel), List.mem_of_getElem? (i := 645) (by decide +kernel)⟩
theorem lw_p28 : lw_okq (⟨"DrumCrankModel", "doesTimes", "(II)I"⟩, 16) := ⟨⟨by decide +kernel, by decide +kernel⟩, List.mem_of_getElem? (i := 466) (by decide +kernel), List.mem_of_getElem? (i := 656) (by decide +kernel), List.mem_of_getElem? (i := 657) (by decide +kernel)⟩
theorem lw_p29 : lw_okq (⟨"DrumCrankModel", "laysPlan", "(II)I"⟩, 16) := ⟨⟨by decide +kernel, by decide +kernel⟩, List.mem_of_getElem? (i := 466) (by decide +kernel), List.mem_of_getElem? (i := 660) (by decide +kernel), List.mem_of_getElem? (i := 661) (by decide +kernel)⟩
theorem lw_p30 : lw_okq (⟨"DrumCrankModel", "doesDivide", "()I"⟩, 16) := ⟨⟨by decide +kernel, by decide +kernel⟩, List.mem_of_getElem? (i := 466) (by decide +kernel), List.mem_of_getElem? (i := 668) (by decide +kernel), List.mem_of_getElem? (i := 669) (by decide +kernel)⟩
theorem lw_p31 : lw_okq (⟨"DrumCrankModel", "downs0", "()Z"⟩, 16) := ⟨⟨by decide +kernel, by decide +kernel⟩, List.mem_of_getElem? (i := 466) (by decide +kernel), List.mem_of_getElem? (i := 672) (by decide +kernel), List.mem_of_getElem? (i := 673) (by decide +kernel)⟩
def lw_privs_2 : List (MethodName × Nat) := [(⟨"DrumCrankModel", "remembers", "()V"⟩, 16), (⟨"DrumCrankModel", "putInput", "(I)I"⟩, 16), (⟨"DrumCrankModel", "putShift", "(I)I"⟩, 16), (⟨"DrumCrankModel", "putReach", "(I)I"⟩, 16), (⟨"DrumCrankModel", "putWorn", "(II)I"⟩, 16), (⟨"DrumCrankModel", "clearsAll", "()I"⟩, 16), (⟨"DrumCrankModel", "clearsCounters", "()V"⟩, 16), (⟨"DrumCrankModel", "putWheels", "(J)I"⟩, 16), (⟨"DrumCrankModel", "doesTurns", "(II)I"⟩, 16), (⟨"DrumCrankModel", "laysGives", "()V"⟩, 16), (⟨"DrumCrankModel", "turnsOnce", "(II)Z"⟩, 16), (⟨"DrumCrankModel", "turnsBy", "([IIII)Z"⟩, 16), (⟨"DrumCrankModel", "doesTimes", "(II)I"⟩, 16), (⟨"DrumCrankModel", "laysPlan", "(II)I"⟩, 16), (⟨"DrumCrankModel", "doesDivide", "()I"⟩, 16), (⟨"DrumCrankModel", "downs0", "()Z"⟩, 16)]
theorem lw_r2 : ∀ q ∈ lw_privs_2, lw_okq q := List.forall_mem_cons.mpr ⟨lw_p16, List.forall_mem_cons.mpr ⟨lw_p17, List.forall_mem_cons.mpr ⟨lw_p18, List.forall_mem_cons.mpr ⟨lw_p19, List.forall_mem_cons.mpr ⟨lw_p20, List.forall_mem_cons.mpr ⟨lw_p21, List.forall_mem_cons.mpr ⟨lw_p22, List.forall_mem_cons.mpr ⟨lw_p23, List.forall_mem_cons.mpr ⟨lw_p24, List.forall_mem_cons.mpr ⟨lw_p25, List.forall_mem_cons.mpr ⟨lw_p26, List.forall_mem_cons.mpr ⟨lw_p27, List.forall_mem_cons.mpr ⟨lw_p28, List.forall_mem_cons.mpr ⟨lw_p29, List.forall_mem_cons.mpr ⟨lw_p30, List.forall_mem_cons.mpr ⟨lw_p31, fun _ h => absurd h List.not_mem_nil⟩⟩⟩⟩⟩⟩⟩⟩⟩⟩⟩⟩⟩⟩⟩⟩
theorem lw_p32 : lw_okq (⟨"DrumCrankModel", "takesBack", "()V"⟩, 16) := ⟨⟨by decide +kernel, by decide +kernel⟩, List.mem_of_getElem? (i := 466) (by decide +kernel), List.mem_of_getElem? (i := 676) (by decide +kernel), List.mem_of_getElem? (i := 677) (by decide +kernel)⟩
theorem lw_p33 : lw_okq (⟨"DrumCrankModel", "drumTold", "(II)I"⟩, 16) := ⟨⟨by decide +kernel, by decide +kernel⟩, List.mem_of_getElem? (i := 466) (by decide +kernel), List.mem_of_getElem? (i := 689) (by decide +kernel), List.mem_of_getElem? (i := 690) (by decide +kernel)⟩
theorem lw_p34 : lw_okq (⟨"DrumCrankModel", "countTold", "(I)I"⟩, 16) := ⟨⟨by decide +kernel, by decide +kernel⟩, List.mem_of_getElem? (i := 466) (by decide +kernel), List.mem_of_getElem? (i := 714) (by decide +kernel), List.mem_of_getElem? (i := 715) (by decide +kernel)⟩
theorem lw_p35 : lw_okq (⟨"DrumCrankModel", "trialOf", "(I)J"⟩, 16) := ⟨⟨by decide +kernel, by decide +kernel⟩, List.mem_of_getElem? (i := 466) (by decide +kernel), List.mem_of_getElem? (i := 722) (by decide +kernel), List.mem_of_getElem? (i := 723) (by decide +kernel)⟩
theorem lw_p36 : lw_okq (⟨"DrumCrankModel", "tries", "(I)J"⟩, 16) := ⟨⟨by decide +kernel, by decide +kernel⟩, List.mem_of_getElem? (i := 466) (by decide +kernel), List.mem_of_getElem? (i := 726) (by decide +kernel), List.mem_of_getElem? (i := 727) (by decide +kernel)⟩
theorem lw_p37 : lw_okq (⟨"DrumCrankModel", "explained", "(JII)I"⟩, 16) := ⟨⟨by decide +kernel, by decide +kernel⟩, List.mem_of_getElem? (i := 466) (by decide +kernel), List.mem_of_getElem? (i := 734) (by decide +kernel), List.mem_of_getElem? (i := 735) (by decide +kernel)⟩
theorem lw_p38 : lw_okq (⟨"DrumCrankModel", "isRead", "()Z"⟩, 16) := ⟨⟨by decide +kernel, by decide +kernel⟩, List.mem_of_getElem? (i := 466) (by decide +kernel), List.mem_of_getElem? (i := 751) (by decide +kernel), List.mem_of_getElem? (i := 752) (by decide +kernel)⟩
theorem lw_p39 : lw_okq (⟨"DrumCrankModel", "blanks", "()V"⟩, 16) := ⟨⟨by decide +kernel, by decide +kernel⟩, List.mem_of_getElem? (i := 466) (by decide +kernel), List.mem_of_getElem? (i := 755) (by decide +kernel), List.mem_of_getElem? (i := 756) (by decide +kernel)⟩
theorem lw_p40 : lw_okq (⟨"DrumCrankModel", "isAt", "(II)Z"⟩, 16) := ⟨⟨by decide +kernel, by decide +kernel⟩, List.mem_of_getElem? (i := 466) (by decide +kernel), List.mem_of_getElem? (i := 759) (by decide +kernel), List.mem_of_getElem? (i := 760) (by decide +kernel)⟩
theorem lw_p41 : lw_okq (⟨"DrumCrankModel", "takesOrder", "()Z"⟩, 16) := ⟨⟨by decide +kernel, by decide +kernel⟩, List.mem_of_getElem? (i := 466) (by decide +kernel), List.mem_of_getElem? (i := 763) (by decide +kernel), List.mem_of_getElem? (i := 764) (by decide +kernel)⟩
theorem lw_p42 : lw_okq (⟨"DrumCrankModel", "fails", "()Z"⟩, 16) := ⟨⟨by decide +kernel, by decide +kernel⟩, List.mem_of_getElem? (i := 466) (by decide +kernel), List.mem_of_getElem? (i := 770) (by decide +kernel), List.mem_of_getElem? (i := 771) (by decide +kernel)⟩
theorem lw_p43 : lw_okq (⟨"DrumCrankModel", "takesNumber", "(I)Z"⟩, 16) := ⟨⟨by decide +kernel, by decide +kernel⟩, List.mem_of_getElem? (i := 466) (by decide +kernel), List.mem_of_getElem? (i := 774) (by decide +kernel), List.mem_of_getElem? (i := 775) (by decide +kernel)⟩
theorem lw_p44 : lw_okq (⟨"DrumCrankModel", "doneOne", "(I)I"⟩, 16) := ⟨⟨by decide +kernel, by decide +kernel⟩, List.mem_of_getElem? (i := 466) (by decide +kernel), List.mem_of_getElem? (i := 778) (by decide +kernel), List.mem_of_getElem? (i := 779) (by decide +kernel)⟩
theorem lw_p45 : lw_okq (⟨"DrumCrankModel", "toldAt", "(I)I"⟩, 16) := ⟨⟨by decide +kernel, by decide +kernel⟩, List.mem_of_getElem? (i := 466) (by decide +kernel), List.mem_of_getElem? (i := 787) (by decide +kernel), List.mem_of_getElem? (i := 788) (by decide +kernel)⟩
theorem lw_p46 : lw_okq (⟨"DrumCrankModel", "mix", "(J)V"⟩, 16) := ⟨⟨by decide +kernel, by decide +kernel⟩, List.mem_of_getElem? (i := 466) (by decide +kernel), List.mem_of_getElem? (i := 796) (by decide +kernel), List.mem_of_getElem? (i := 797) (by decide +kernel)⟩
def lw_privs_3 : List (MethodName × Nat) := [(⟨"DrumCrankModel", "takesBack", "()V"⟩, 16), (⟨"DrumCrankModel", "drumTold", "(II)I"⟩, 16), (⟨"DrumCrankModel", "countTold", "(I)I"⟩, 16), (⟨"DrumCrankModel", "trialOf", "(I)J"⟩, 16), (⟨"DrumCrankModel", "tries", "(I)J"⟩, 16), (⟨"DrumCrankModel", "explained", "(JII)I"⟩, 16), (⟨"DrumCrankModel", "isRead", "()Z"⟩, 16), (⟨"DrumCrankModel", "blanks", "()V"⟩, 16), (⟨"DrumCrankModel", "isAt", "(II)Z"⟩, 16), (⟨"DrumCrankModel", "takesOrder", "()Z"⟩, 16), (⟨"DrumCrankModel", "fails", "()Z"⟩, 16), (⟨"DrumCrankModel", "takesNumber", "(I)Z"⟩, 16), (⟨"DrumCrankModel", "doneOne", "(I)I"⟩, 16), (⟨"DrumCrankModel", "toldAt", "(I)I"⟩, 16), (⟨"DrumCrankModel", "mix", "(J)V"⟩, 16)]
theorem lw_r3 : ∀ q ∈ lw_privs_3, lw_okq q := List.forall_mem_cons.mpr ⟨lw_p32, List.forall_mem_cons.mpr ⟨lw_p33, List.forall_mem_cons.mpr ⟨lw_p34, List.forall_mem_cons.mpr ⟨lw_p35, List.forall_mem_cons.mpr ⟨lw_p36, List.forall_mem_cons.mpr ⟨lw_p37, List.forall_mem_cons.mpr ⟨lw_p38, List.forall_mem_cons.mpr ⟨lw_p39, List.forall_mem_cons.mpr ⟨lw_p40, List.forall_mem_cons.mpr ⟨lw_p41, List.forall_mem_cons.mpr ⟨lw_p42, List.forall_mem_cons.mpr ⟨lw_p43, List.forall_mem_cons.mpr ⟨lw_p44, List.forall_mem_cons.mpr ⟨lw_p45, List.forall_mem_cons.mpr ⟨lw_p46, fun _ h => absurd h List.not_mem_nil⟩⟩⟩⟩⟩⟩⟩⟩⟩⟩⟩⟩⟩⟩⟩
def lw_privs : List (MethodName × Nat) := lw_privs_1 ++ (lw_privs_2 ++ (lw_privs_3))
def lw_tbl : List Cond := k2_sels lw_privs ++ tables_1
theorem lw_privs_ok : ∀ q ∈ lw_privs, lw_okq q := by
  show ∀ q ∈ lw_privs_1 ++ (lw_privs_2 ++ (lw_privs_3)), lw_okq q
  exact List.forall_mem_append.mpr ⟨lw_r1, List.forall_mem_append.mpr ⟨lw_r2, lw_r3⟩⟩
def RX0 : String := "DrumCrank$Orders"
def TX0 : u_T := fun k => match k with
  | 0 => ("DrumCrank$Orders", "letters", "[I", true)
  | 1 => ("DrumCrank$Orders", "firsts", "[I", true)
  | 2 => ("DrumCrank$Orders", "seconds", "[I", true)
  | 3 => ("DrumCrank$Orders", "size", "I", false)
  | 4 => ("DrumCrank$Orders", "place", "I", false)
  | _ => ("DrumCrank$Orders", "lastNumber", "I", false)
def tyX0 : Nat → FieldType := fun k => match k with
  | 0 => .array .int
  | 1 => .array .int
  | 2 => .array .int
  | 3 => .int
  | 4 => .int
  | _ => .int
theorem nmX0 : ∀ a, a < 6 → ∀ b, b < 6 → a ≠ b → (TX0 a).2.1 ≠ (TX0 b).2.1 := by decide +kernel
theorem tyX0_ok : ∀ k, k < 6 → parseFieldDescriptor (TX0 k).2.2.1 = some (tyX0 k) := by decide +kernel
abbrev cX0_init : ByteArray := prog_2_method_1_code
def yX0_init : MethodName := ⟨RX0, "<init>", "()V"⟩
abbrev cX0_read : ByteArray := prog_2_method_2_code
def yX0_read : MethodName := ⟨RX0, "read", "(LDrumCrank$Text;)I"⟩
abbrev cX0_readOrder : ByteArray := prog_2_method_3_code
def yX0_readOrder : MethodName := ⟨RX0, "readOrder", "(LDrumCrank$Text;I)Z"⟩
abbrev cX0_readNumber : ByteArray := prog_2_method_4_code
def yX0_readNumber : MethodName := ⟨RX0, "readNumber", "(LDrumCrank$Text;)Z"⟩
abbrev cX0_skipBlanks : ByteArray := prog_2_method_5_code
def yX0_skipBlanks : MethodName := ⟨RX0, "skipBlanks", "(LDrumCrank$Text;)V"⟩
abbrev cX0_isFigure : ByteArray := prog_2_method_6_code
def yX0_isFigure : MethodName := ⟨RX0, "isFigure", "(I)Z"⟩
abbrev cX0_numbersOf : ByteArray := prog_2_method_7_code
def yX0_numbersOf : MethodName := ⟨RX0, "numbersOf", "(I)I"⟩
def RX1 : String := "DrumCrank$States"
def TX1 : u_T := fun k => match k with
  | 0 => ("DrumCrank$States", "ring", "[LDrumCrank$Works;", true)
  | 1 => ("DrumCrank$States", "next", "I", false)
  | _ => ("DrumCrank$States", "size", "I", false)
def tyX1 : Nat → FieldType := fun k => match k with
  | 0 => .array (.object "DrumCrank$Works")
  | 1 => .int
  | _ => .int
theorem nmX1 : ∀ a, a < 3 → ∀ b, b < 3 → a ≠ b → (TX1 a).2.1 ≠ (TX1 b).2.1 := by decide +kernel
theorem tyX1_ok : ∀ k, k < 3 → parseFieldDescriptor (TX1 k).2.2.1 = some (tyX1 k) := by decide +kernel
abbrev cX1_init : ByteArray := prog_3_method_1_code
def yX1_init : MethodName := ⟨RX1, "<init>", "()V"⟩
abbrev cX1_keep : ByteArray := prog_3_method_2_code
def yX1_keep : MethodName := ⟨RX1, "keep", "(LDrumCrank$Works;)V"⟩
abbrev cX1_giveBackTo : ByteArray := prog_3_method_3_code
def yX1_giveBackTo : MethodName := ⟨RX1, "giveBackTo", "(LDrumCrank$Works;)V"⟩
def RX2 : String := "DrumCrank$Text"
def TX2 : u_T := fun k => match k with
  | 0 => ("DrumCrank$Text", "bytes", "[B", true)
  | _ => ("DrumCrank$Text", "length", "I", false)
def tyX2 : Nat → FieldType := fun k => match k with
  | 0 => .array .byte
  | _ => .int
theorem nmX2 : ∀ a, a < 2 → ∀ b, b < 2 → a ≠ b → (TX2 a).2.1 ≠ (TX2 b).2.1 := by decide +kernel
theorem tyX2_ok : ∀ k, k < 2 → parseFieldDescriptor (TX2 k).2.2.1 = some (tyX2 k) := by decide +kernel
abbrev cX2_init : ByteArray := prog_4_method_1_code
def yX2_init : MethodName := ⟨RX2, "<init>", "()V"⟩
abbrev cX2_add : ByteArray := prog_4_method_2_code
def yX2_add : MethodName := ⟨RX2, "add", "(I)I"⟩
abbrev cX2_empty : ByteArray := prog_4_method_3_code
def yX2_empty : MethodName := ⟨RX2, "empty", "()I"⟩
abbrev cX2_at : ByteArray := prog_4_method_4_code
def yX2_at : MethodName := ⟨RX2, "at", "(I)I"⟩
def RX3 : String := "DrumCrank$Works"
def TX3 : u_T := fun k => match k with
  | 0 => ("DrumCrank$Works", "digits", "[I", true)
  | 1 => ("DrumCrank$Works", "worn", "[I", true)
  | 2 => ("DrumCrank$Works", "wheels", "[I", true)
  | 3 => ("DrumCrank$Works", "counters", "[I", true)
  | 4 => ("DrumCrank$Works", "shift", "I", false)
  | 5 => ("DrumCrank$Works", "reach", "I", false)
  | 6 => ("DrumCrank$Works", "bell", "I", false)
  | _ => ("DrumCrank$Works", "turned", "I", false)
def tyX3 : Nat → FieldType := fun k => match k with
  | 0 => .array .int
  | 1 => .array .int
  | 2 => .array .int
  | 3 => .array .int
  | 4 => .int
  | 5 => .int
  | 6 => .int
  | _ => .int
theorem nmX3 : ∀ a, a < 8 → ∀ b, b < 8 → a ≠ b → (TX3 a).2.1 ≠ (TX3 b).2.1 := by decide +kernel
theorem tyX3_ok : ∀ k, k < 8 → parseFieldDescriptor (TX3 k).2.2.1 = some (tyX3 k) := by decide +kernel
abbrev cX3_init : ByteArray := prog_5_method_1_code
def yX3_init : MethodName := ⟨RX3, "<init>", "()V"⟩
abbrev cX3_copyFrom : ByteArray := prog_5_method_2_code
def yX3_copyFrom : MethodName := ⟨RX3, "copyFrom", "(LDrumCrank$Works;)V"⟩
abbrev cX3_setDrum : ByteArray := prog_5_method_3_code
def yX3_setDrum : MethodName := ⟨RX3, "setDrum", "(II)I"⟩
abbrev cX3_setDrums : ByteArray := prog_5_method_4_code
def yX3_setDrums : MethodName := ⟨RX3, "setDrums", "(I)I"⟩
abbrev cX3_setShift : ByteArray := prog_5_method_5_code
def yX3_setShift : MethodName := ⟨RX3, "setShift", "(I)I"⟩
abbrev cX3_setReach : ByteArray := prog_5_method_6_code
def yX3_setReach : MethodName := ⟨RX3, "setReach", "(I)I"⟩
abbrev cX3_wearTooth : ByteArray := prog_5_method_7_code
def yX3_wearTooth : MethodName := ⟨RX3, "wearTooth", "(II)I"⟩
abbrev cX3_clearAll : ByteArray := prog_5_method_8_code
def yX3_clearAll : MethodName := ⟨RX3, "clearAll", "()I"⟩
abbrev cX3_layWheels : ByteArray := prog_5_method_9_code
def yX3_layWheels : MethodName := ⟨RX3, "layWheels", "(J)I"⟩
abbrev cX3_turnOften : ByteArray := prog_5_method_10_code
def yX3_turnOften : MethodName := ⟨RX3, "turnOften", "(II)I"⟩
abbrev cX3_multiply : ByteArray := prog_5_method_11_code
def yX3_multiply : MethodName := ⟨RX3, "multiply", "(II)I"⟩
abbrev cX3_divide : ByteArray := prog_5_method_12_code
def yX3_divide : MethodName := ⟨RX3, "divide", "()I"⟩
abbrev cX3_turnDownTillBell : ByteArray := prog_5_method_13_code
def yX3_turnDownTillBell : MethodName := ⟨RX3, "turnDownTillBell", "()Z"⟩
abbrev cX3_turnOnce : ByteArray := prog_5_method_14_code
def yX3_turnOnce : MethodName := ⟨RX3, "turnOnce", "(II)Z"⟩
abbrev cX3_given : ByteArray := prog_5_method_15_code
def yX3_given : MethodName := ⟨RX3, "given", "(I)I"⟩
abbrev cX3_numberGiven : ByteArray := prog_5_method_16_code
def yX3_numberGiven : MethodName := ⟨RX3, "numberGiven", "()I"⟩
abbrev cX3_tellDrum : ByteArray := prog_5_method_17_code
def yX3_tellDrum : MethodName := ⟨RX3, "tellDrum", "(II)I"⟩
abbrev cX3_tellCount : ByteArray := prog_5_method_18_code
def yX3_tellCount : MethodName := ⟨RX3, "tellCount", "(I)I"⟩
abbrev cX3_wornTeeth : ByteArray := prog_5_method_19_code
def yX3_wornTeeth : MethodName := ⟨RX3, "wornTeeth", "()I"⟩
abbrev cX3_tried : ByteArray := prog_5_method_20_code
def yX3_tried : MethodName := ⟨RX3, "tried", "(II)J"⟩
abbrev cX3_explain : ByteArray := prog_5_method_21_code
def yX3_explain : MethodName := ⟨RX3, "explain", "(JII)I"⟩
def RX4 : String := "DrumCrank"
def TX4 : u_T := fun k => match k with
  | 0 => ("DrumCrank", "now", "LDrumCrank$Works;", true)
  | 1 => ("DrumCrank", "ahead", "LDrumCrank$Works;", true)
  | 2 => ("DrumCrank", "states", "LDrumCrank$States;", true)
  | 3 => ("DrumCrank", "text", "LDrumCrank$Text;", true)
  | 4 => ("DrumCrank", "orders", "LDrumCrank$Orders;", true)
  | 5 => ("DrumCrank", "timesBad", "I", false)
  | 6 => ("DrumCrank", "timesNo", "I", false)
  | _ => ("DrumCrank", "timesFull", "I", false)
def tyX4 : Nat → FieldType := fun k => match k with
  | 0 => .object "DrumCrank$Works"
  | 1 => .object "DrumCrank$Works"
  | 2 => .object "DrumCrank$States"
  | 3 => .object "DrumCrank$Text"
  | 4 => .object "DrumCrank$Orders"
  | 5 => .int
  | 6 => .int
  | _ => .int
theorem nmX4 : ∀ a, a < 8 → ∀ b, b < 8 → a ≠ b → (TX4 a).2.1 ≠ (TX4 b).2.1 := by decide +kernel
theorem tyX4_ok : ∀ k, k < 8 → parseFieldDescriptor (TX4 k).2.2.1 = some (tyX4 k) := by decide +kernel
abbrev cX4_init : ByteArray := prog_1_method_1_code
def yX4_init : MethodName := ⟨RX4, "<init>", "()V"⟩
abbrev cX4_sets : ByteArray := prog_1_method_2_code
def yX4_sets : MethodName := ⟨RX4, "sets", "(II)I"⟩
abbrev cX4_input : ByteArray := prog_1_method_3_code
def yX4_input : MethodName := ⟨RX4, "input", "(I)I"⟩
abbrev cX4_shifts : ByteArray := prog_1_method_4_code
def yX4_shifts : MethodName := ⟨RX4, "shifts", "(I)I"⟩
abbrev cX4_reaches : ByteArray := prog_1_method_5_code
def yX4_reaches : MethodName := ⟨RX4, "reaches", "(I)I"⟩
abbrev cX4_wears : ByteArray := prog_1_method_6_code
def yX4_wears : MethodName := ⟨RX4, "wears", "(II)I"⟩
abbrev cX4_clears : ByteArray := prog_1_method_7_code
def yX4_clears : MethodName := ⟨RX4, "clears", "()I"⟩
abbrev cX4_lays : ByteArray := prog_1_method_8_code
def yX4_lays : MethodName := ⟨RX4, "lays", "(J)I"⟩
abbrev cX4_ups : ByteArray := prog_1_method_9_code
def yX4_ups : MethodName := ⟨RX4, "ups", "(I)I"⟩
abbrev cX4_downs : ByteArray := prog_1_method_10_code
def yX4_downs : MethodName := ⟨RX4, "downs", "(I)I"⟩
abbrev cX4_times : ByteArray := prog_1_method_11_code
def yX4_times : MethodName := ⟨RX4, "times", "(II)I"⟩
abbrev cX4_divides : ByteArray := prog_1_method_12_code
def yX4_divides : MethodName := ⟨RX4, "divides", "()I"⟩
abbrev cX4_turns : ByteArray := prog_1_method_13_code
def yX4_turns : MethodName := ⟨RX4, "turns", "(II)I"⟩
abbrev cX4_drum : ByteArray := prog_1_method_14_code
def yX4_drum : MethodName := ⟨RX4, "drum", "(II)I"⟩
abbrev cX4_wheel : ByteArray := prog_1_method_15_code
def yX4_wheel : MethodName := ⟨RX4, "wheel", "(I)I"⟩
abbrev cX4_value : ByteArray := prog_1_method_16_code
def yX4_value : MethodName := ⟨RX4, "value", "()J"⟩
abbrev cX4_counter : ByteArray := prog_1_method_17_code
def yX4_counter : MethodName := ⟨RX4, "counter", "(I)I"⟩
abbrev cX4_count : ByteArray := prog_1_method_18_code
def yX4_count : MethodName := ⟨RX4, "count", "(I)I"⟩
abbrev cX4_trial : ByteArray := prog_1_method_19_code
def yX4_trial : MethodName := ⟨RX4, "trial", "(I)J"⟩
abbrev cX4_explains : ByteArray := prog_1_method_20_code
def yX4_explains : MethodName := ⟨RX4, "explains", "(JII)I"⟩
abbrev cX4_type : ByteArray := prog_1_method_21_code
def yX4_type : MethodName := ⟨RX4, "type", "(I)I"⟩
abbrev cX4_wipes : ByteArray := prog_1_method_22_code
def yX4_wipes : MethodName := ⟨RX4, "wipes", "()I"⟩
abbrev cX4_does : ByteArray := prog_1_method_23_code
def yX4_does : MethodName := ⟨RX4, "does", "()I"⟩
abbrev cX4_back : ByteArray := prog_1_method_24_code
def yX4_back : MethodName := ⟨RX4, "back", "()I"⟩
abbrev cX4_told : ByteArray := prog_1_method_25_code
def yX4_told : MethodName := ⟨RX4, "told", "(I)I"⟩
abbrev cX4_digest : ByteArray := prog_1_method_26_code
def yX4_digest : MethodName := ⟨RX4, "digest", "()J"⟩
abbrev cX4_remember : ByteArray := prog_1_method_27_code
def yX4_remember : MethodName := ⟨RX4, "remember", "()V"⟩
abbrev cX4_settled : ByteArray := prog_1_method_28_code
def yX4_settled : MethodName := ⟨RX4, "settled", "(I)I"⟩
abbrev cX4_counted : ByteArray := prog_1_method_29_code
def yX4_counted : MethodName := ⟨RX4, "counted", "(I)I"⟩
abbrev cX4_perform : ByteArray := prog_1_method_30_code
def yX4_perform : MethodName := ⟨RX4, "perform", "(III)I"⟩
abbrev cX4_within : ByteArray := prog_1_method_31_code
def yX4_within : MethodName := ⟨RX4, "within", "(JJJ)Z"⟩
abbrev cX4_number : ByteArray := prog_1_method_32_code
def yX4_number : MethodName := ⟨RX4, "number", "([I)J"⟩
abbrev cX4_putFigures : ByteArray := prog_1_method_33_code
def yX4_putFigures : MethodName := ⟨RX4, "putFigures", "([IJ)I"⟩
abbrev cX4_canMultiply : ByteArray := prog_1_method_34_code
def yX4_canMultiply : MethodName := ⟨RX4, "canMultiply", "(II)Z"⟩
abbrev cX4_figuresToMultiply : ByteArray := prog_1_method_35_code
def yX4_figuresToMultiply : MethodName := ⟨RX4, "figuresToMultiply", "(I)I"⟩
abbrev cX4_turnsForFigure : ByteArray := prog_1_method_36_code
def yX4_turnsForFigure : MethodName := ⟨RX4, "turnsForFigure", "(II)I"⟩
abbrev cX4_leftBehindFigure : ByteArray := prog_1_method_37_code
def yX4_leftBehindFigure : MethodName := ⟨RX4, "leftBehindFigure", "(II)I"⟩
abbrev cX4_turnsToMultiply : ByteArray := prog_1_method_38_code
def yX4_turnsToMultiply : MethodName := ⟨RX4, "turnsToMultiply", "(II)I"⟩
def RX5 : String := "DrumCrankModel"
def TX5 : u_T := fun k => match k with
  | 0 => ("DrumCrankModel", "now", "[I", true)
  | 1 => ("DrumCrankModel", "aside", "[I", true)
  | 2 => ("DrumCrankModel", "past", "[I", true)
  | 3 => ("DrumCrankModel", "states", "I", false)
  | 4 => ("DrumCrankModel", "refusals", "[I", true)
  | 5 => ("DrumCrankModel", "text", "[I", true)
  | 6 => ("DrumCrankModel", "bytes", "I", false)
  | 7 => ("DrumCrankModel", "gives", "[I", true)
  | 8 => ("DrumCrankModel", "tried", "[I", true)
  | 9 => ("DrumCrankModel", "plan", "[I", true)
  | 10 => ("DrumCrankModel", "letters", "[I", true)
  | 11 => ("DrumCrankModel", "numbers", "[I", true)
  | 12 => ("DrumCrankModel", "orders", "I", false)
  | 13 => ("DrumCrankModel", "spot", "I", false)
  | 14 => ("DrumCrankModel", "wrongAt", "I", false)
  | _ => ("DrumCrankModel", "hash", "J", false)
def tyX5 : Nat → FieldType := fun k => match k with
  | 0 => .array .int
  | 1 => .array .int
  | 2 => .array .int
  | 3 => .int
  | 4 => .array .int
  | 5 => .array .int
  | 6 => .int
  | 7 => .array .int
  | 8 => .array .int
  | 9 => .array .int
  | 10 => .array .int
  | 11 => .array .int
  | 12 => .int
  | 13 => .int
  | 14 => .int
  | _ => .long
theorem nmX5 : ∀ a, a < 16 → ∀ b, b < 16 → a ≠ b → (TX5 a).2.1 ≠ (TX5 b).2.1 := by decide +kernel
theorem tyX5_ok : ∀ k, k < 16 → parseFieldDescriptor (TX5 k).2.2.1 = some (tyX5 k) := by decide +kernel
abbrev cX5_init : ByteArray := prog_7_method_1_code
def yX5_init : MethodName := ⟨RX5, "<init>", "()V"⟩
abbrev cX5_in : ByteArray := prog_7_method_3_code
def yX5_in : MethodName := ⟨RX5, "in", "(JJJ)Z"⟩
abbrev cX5_refuses : ByteArray := prog_7_method_4_code
def yX5_refuses : MethodName := ⟨RX5, "refuses", "(I)I"⟩
abbrev cX5_laysAside : ByteArray := prog_7_method_5_code
def yX5_laysAside : MethodName := ⟨RX5, "laysAside", "()V"⟩
abbrev cX5_takesBack : ByteArray := prog_7_method_6_code
def yX5_takesBack : MethodName := ⟨RX5, "takesBack", "()V"⟩
abbrev cX5_remembers : ByteArray := prog_7_method_7_code
def yX5_remembers : MethodName := ⟨RX5, "remembers", "()V"⟩
abbrev cX5_back : ByteArray := prog_7_method_8_code
def yX5_back : MethodName := ⟨RX5, "back", "()I"⟩
abbrev cX5_finished : ByteArray := prog_7_method_9_code
def yX5_finished : MethodName := ⟨RX5, "finished", "(I)I"⟩
abbrev cX5_isDrum : ByteArray := prog_7_method_10_code
def yX5_isDrum : MethodName := ⟨RX5, "isDrum", "(I)Z"⟩
abbrev cX5_whole : ByteArray := prog_7_method_11_code
def yX5_whole : MethodName := ⟨RX5, "whole", "(II)I"⟩
abbrev cX5_laysGives : ByteArray := prog_7_method_12_code
def yX5_laysGives : MethodName := ⟨RX5, "laysGives", "()V"⟩
abbrev cX5_turnsBy : ByteArray := prog_7_method_13_code
def yX5_turnsBy : MethodName := ⟨RX5, "turnsBy", "([IIII)Z"⟩
abbrev cX5_turnsOnce : ByteArray := prog_7_method_14_code
def yX5_turnsOnce : MethodName := ⟨RX5, "turnsOnce", "(II)Z"⟩
abbrev cX5_doesTurns : ByteArray := prog_7_method_15_code
def yX5_doesTurns : MethodName := ⟨RX5, "doesTurns", "(II)I"⟩
abbrev cX5_clearsAll : ByteArray := prog_7_method_16_code
def yX5_clearsAll : MethodName := ⟨RX5, "clearsAll", "()I"⟩
abbrev cX5_clearsCounters : ByteArray := prog_7_method_17_code
def yX5_clearsCounters : MethodName := ⟨RX5, "clearsCounters", "()V"⟩
abbrev cX5_laysPlan : ByteArray := prog_7_method_18_code
def yX5_laysPlan : MethodName := ⟨RX5, "laysPlan", "(II)I"⟩
abbrev cX5_doesTimes : ByteArray := prog_7_method_19_code
def yX5_doesTimes : MethodName := ⟨RX5, "doesTimes", "(II)I"⟩
abbrev cX5_downs0 : ByteArray := prog_7_method_20_code
def yX5_downs0 : MethodName := ⟨RX5, "downs0", "()Z"⟩
abbrev cX5_doesDivide : ByteArray := prog_7_method_21_code
def yX5_doesDivide : MethodName := ⟨RX5, "doesDivide", "()I"⟩
abbrev cX5_change : ByteArray := prog_7_method_22_code
def yX5_change : MethodName := ⟨RX5, "change", "(II)I"⟩
abbrev cX5_putDigit : ByteArray := prog_7_method_23_code
def yX5_putDigit : MethodName := ⟨RX5, "putDigit", "(II)I"⟩
abbrev cX5_putShift : ByteArray := prog_7_method_24_code
def yX5_putShift : MethodName := ⟨RX5, "putShift", "(I)I"⟩
abbrev cX5_putReach : ByteArray := prog_7_method_25_code
def yX5_putReach : MethodName := ⟨RX5, "putReach", "(I)I"⟩
abbrev cX5_wornMany : ByteArray := prog_7_method_26_code
def yX5_wornMany : MethodName := ⟨RX5, "wornMany", "(I)I"⟩
abbrev cX5_putWorn : ByteArray := prog_7_method_27_code
def yX5_putWorn : MethodName := ⟨RX5, "putWorn", "(II)I"⟩
abbrev cX5_number : ByteArray := prog_7_method_28_code
def yX5_number : MethodName := ⟨RX5, "number", "([III)I"⟩
abbrev cX5_putInput : ByteArray := prog_7_method_29_code
def yX5_putInput : MethodName := ⟨RX5, "putInput", "(I)I"⟩
abbrev cX5_putWheels : ByteArray := prog_7_method_30_code
def yX5_putWheels : MethodName := ⟨RX5, "putWheels", "(J)I"⟩
abbrev cX5_sets : ByteArray := prog_7_method_31_code
def yX5_sets : MethodName := ⟨RX5, "sets", "(II)I"⟩
abbrev cX5_input : ByteArray := prog_7_method_32_code
def yX5_input : MethodName := ⟨RX5, "input", "(I)I"⟩
abbrev cX5_shifts : ByteArray := prog_7_method_33_code
def yX5_shifts : MethodName := ⟨RX5, "shifts", "(I)I"⟩
abbrev cX5_reaches : ByteArray := prog_7_method_34_code
def yX5_reaches : MethodName := ⟨RX5, "reaches", "(I)I"⟩
abbrev cX5_wears : ByteArray := prog_7_method_35_code
def yX5_wears : MethodName := ⟨RX5, "wears", "(II)I"⟩
abbrev cX5_clears : ByteArray := prog_7_method_36_code
def yX5_clears : MethodName := ⟨RX5, "clears", "()I"⟩
abbrev cX5_lays : ByteArray := prog_7_method_37_code
def yX5_lays : MethodName := ⟨RX5, "lays", "(J)I"⟩
abbrev cX5_ups : ByteArray := prog_7_method_38_code
def yX5_ups : MethodName := ⟨RX5, "ups", "(I)I"⟩
abbrev cX5_downs : ByteArray := prog_7_method_39_code
def yX5_downs : MethodName := ⟨RX5, "downs", "(I)I"⟩
abbrev cX5_times : ByteArray := prog_7_method_40_code
def yX5_times : MethodName := ⟨RX5, "times", "(II)I"⟩
abbrev cX5_divides : ByteArray := prog_7_method_41_code
def yX5_divides : MethodName := ⟨RX5, "divides", "()I"⟩
abbrev cX5_turns : ByteArray := prog_7_method_42_code
def yX5_turns : MethodName := ⟨RX5, "turns", "(II)I"⟩
abbrev cX5_drumTold : ByteArray := prog_7_method_43_code
def yX5_drumTold : MethodName := ⟨RX5, "drumTold", "(II)I"⟩
abbrev cX5_drum : ByteArray := prog_7_method_44_code
def yX5_drum : MethodName := ⟨RX5, "drum", "(II)I"⟩
abbrev cX5_wheel : ByteArray := prog_7_method_45_code
def yX5_wheel : MethodName := ⟨RX5, "wheel", "(I)I"⟩
abbrev cX5_valueOf : ByteArray := prog_7_method_46_code
def yX5_valueOf : MethodName := ⟨RX5, "valueOf", "([II)J"⟩
abbrev cX5_value : ByteArray := prog_7_method_47_code
def yX5_value : MethodName := ⟨RX5, "value", "()J"⟩
abbrev cX5_counter : ByteArray := prog_7_method_48_code
def yX5_counter : MethodName := ⟨RX5, "counter", "(I)I"⟩
abbrev cX5_countTold : ByteArray := prog_7_method_49_code
def yX5_countTold : MethodName := ⟨RX5, "countTold", "(I)I"⟩
abbrev cX5_count : ByteArray := prog_7_method_50_code
def yX5_count : MethodName := ⟨RX5, "count", "(I)I"⟩
abbrev cX5_tries : ByteArray := prog_7_method_51_code
def yX5_tries : MethodName := ⟨RX5, "tries", "(I)J"⟩
abbrev cX5_trialOf : ByteArray := prog_7_method_52_code
def yX5_trialOf : MethodName := ⟨RX5, "trialOf", "(I)J"⟩
abbrev cX5_trial : ByteArray := prog_7_method_53_code
def yX5_trial : MethodName := ⟨RX5, "trial", "(I)J"⟩
abbrev cX5_explained : ByteArray := prog_7_method_54_code
def yX5_explained : MethodName := ⟨RX5, "explained", "(JII)I"⟩
abbrev cX5_explains : ByteArray := prog_7_method_55_code
def yX5_explains : MethodName := ⟨RX5, "explains", "(JII)I"⟩
abbrev cX5_type : ByteArray := prog_7_method_56_code
def yX5_type : MethodName := ⟨RX5, "type", "(I)I"⟩
abbrev cX5_wipes : ByteArray := prog_7_method_57_code
def yX5_wipes : MethodName := ⟨RX5, "wipes", "()I"⟩
abbrev cX5_isAt : ByteArray := prog_7_method_58_code
def yX5_isAt : MethodName := ⟨RX5, "isAt", "(II)Z"⟩
abbrev cX5_blanks : ByteArray := prog_7_method_59_code
def yX5_blanks : MethodName := ⟨RX5, "blanks", "()V"⟩
abbrev cX5_fails : ByteArray := prog_7_method_60_code
def yX5_fails : MethodName := ⟨RX5, "fails", "()Z"⟩
abbrev cX5_manyOf : ByteArray := prog_7_method_61_code
def yX5_manyOf : MethodName := ⟨RX5, "manyOf", "(I)I"⟩
abbrev cX5_takesNumber : ByteArray := prog_7_method_62_code
def yX5_takesNumber : MethodName := ⟨RX5, "takesNumber", "(I)Z"⟩
abbrev cX5_takesOrder : ByteArray := prog_7_method_63_code
def yX5_takesOrder : MethodName := ⟨RX5, "takesOrder", "()Z"⟩
abbrev cX5_isRead : ByteArray := prog_7_method_64_code
def yX5_isRead : MethodName := ⟨RX5, "isRead", "()Z"⟩
abbrev cX5_doneOne : ByteArray := prog_7_method_65_code
def yX5_doneOne : MethodName := ⟨RX5, "doneOne", "(I)I"⟩
abbrev cX5_does : ByteArray := prog_7_method_66_code
def yX5_does : MethodName := ⟨RX5, "does", "()I"⟩
abbrev cX5_toldAt : ByteArray := prog_7_method_67_code
def yX5_toldAt : MethodName := ⟨RX5, "toldAt", "(I)I"⟩
abbrev cX5_told : ByteArray := prog_7_method_68_code
def yX5_told : MethodName := ⟨RX5, "told", "(I)I"⟩
abbrev cX5_mix : ByteArray := prog_7_method_69_code
def yX5_mix : MethodName := ⟨RX5, "mix", "(J)V"⟩
abbrev cX5_digest : ByteArray := prog_7_method_70_code
def yX5_digest : MethodName := ⟨RX5, "digest", "()J"⟩
def RJ6 : String := "java/lang/Integer"
def TJ6 : u_T := fun k => match k with
  | _ => ("", "", "", false)
def tyJ6 : Nat → FieldType := fun k => match k with
  | _ => .int
theorem nmJ6 : ∀ a, a < 0 → ∀ b, b < 0 → a ≠ b → (TJ6 a).2.1 ≠ (TJ6 b).2.1 := by decide +kernel
theorem tyJ6_ok : ∀ k, k < 0 → parseFieldDescriptor (TJ6 k).2.2.1 = some (tyJ6 k) := by decide +kernel
abbrev cJ6_bitCount_0f7a4 : ByteArray := prog_8_method_49_code
def yJ6_bitCount_0f7a4 : MethodName := ⟨RJ6, "bitCount", "(I)I"⟩
def RJ9 : String := "java/lang/Math"
def TJ9 : u_T := fun k => match k with
  | _ => ("", "", "", false)
def tyJ9 : Nat → FieldType := fun k => match k with
  | _ => .int
theorem nmJ9 : ∀ a, a < 0 → ∀ b, b < 0 → a ≠ b → (TJ9 a).2.1 ≠ (TJ9 b).2.1 := by decide +kernel
theorem tyJ9_ok : ∀ k, k < 0 → parseFieldDescriptor (TJ9 k).2.2.1 = some (tyJ9 k) := by decide +kernel
abbrev cJ9_abs_0f7a4 : ByteArray := prog_9_method_59_code
def yJ9_abs_0f7a4 : MethodName := ⟨RJ9, "abs", "(I)I"⟩
abbrev cJ9_min_7cf53 : ByteArray := prog_9_method_69_code
def yJ9_min_7cf53 : MethodName := ⟨RJ9, "min", "(II)I"⟩
def RJ10 : String := "java/lang/System"
def TJ10 : u_T := fun k => match k with
  | _ => ("", "", "", false)
def tyJ10 : Nat → FieldType := fun k => match k with
  | _ => .int
theorem nmJ10 : ∀ a, a < 0 → ∀ b, b < 0 → a ≠ b → (TJ10 a).2.1 ≠ (TJ10 b).2.1 := by decide +kernel
theorem tyJ10_ok : ∀ k, k < 0 → parseFieldDescriptor (TJ10 k).2.2.1 = some (tyJ10 k) := by decide +kernel
def RJ7 : String := "java/util/Arrays"
def TJ7 : u_T := fun k => match k with
  | _ => ("", "", "", false)
def tyJ7 : Nat → FieldType := fun k => match k with
  | _ => .int
theorem nmJ7 : ∀ a, a < 0 → ∀ b, b < 0 → a ≠ b → (TJ7 a).2.1 ≠ (TJ7 b).2.1 := by decide +kernel
theorem tyJ7_ok : ∀ k, k < 0 → parseFieldDescriptor (TJ7 k).2.2.1 = some (tyJ7 k) := by decide +kernel
abbrev cJ7_fill_53178 : ByteArray := prog_11_method_103_code
def yJ7_fill_53178 : MethodName := ⟨RJ7, "fill", "([II)V"⟩
def RL : String := "DrumCrankLaw"
abbrev cL_law : ByteArray := code
def yL_law : MethodName := ⟨RL, "law", "([I)Z"⟩
abbrev vwCl : List vw_C := [(RX0, TX0, 6), (RX1, TX1, 3), (RX2, TX2, 2), (RX3, TX3, 8), (RX4, TX4, 8), (RX5, TX5, 16)]
