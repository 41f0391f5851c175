section
-- ===== PART A: goes FIRST, ahead of the names: the tables' words, and 'selects' of the private methods out of them =====
/-- a private method of a class that the tables say can be made, by its rows of tables_1 -/
def lw_okq (q : MethodName × Nat) : Prop := (q.1.cls ≠ "java/lang/invoke/MethodHandle" ∧ q.1.cls ≠ "java/lang/invoke/VarHandle") ∧ Cond.instantiable q.1.cls q.2 ∈ tables_1 ∧ Cond.privateMethod q.1 ∈ tables_1 ∧ Cond.instanceMethod q.1 ∈ tables_1
theorem lw_p0 : lw_okq (⟨"DropBoxLoom", "saveBeforeChange", "()V"⟩, 8) := ⟨⟨by decide +kernel, by decide +kernel⟩, List.mem_of_getElem? (i := 13) (by decide +kernel), List.mem_of_getElem? (i := 268) (by decide +kernel), List.mem_of_getElem? (i := 269) (by decide +kernel)⟩
theorem lw_p1 : lw_okq (⟨"DropBoxLoom", "save", "()V"⟩, 8) := ⟨⟨by decide +kernel, by decide +kernel⟩, List.mem_of_getElem? (i := 13) (by decide +kernel), List.mem_of_getElem? (i := 272) (by decide +kernel), List.mem_of_getElem? (i := 273) (by decide +kernel)⟩
theorem lw_p2 : lw_okq (⟨"DropBoxLoom$Chain", "startAgainBehindLast", "()V"⟩, 5) := ⟨⟨by decide +kernel, by decide +kernel⟩, List.mem_of_getElem? (i := 72) (by decide +kernel), List.mem_of_getElem? (i := 366) (by decide +kernel), List.mem_of_getElem? (i := 367) (by decide +kernel)⟩
theorem lw_p3 : lw_okq (⟨"DropBoxLoom$Gear", "sideTooFar", "()I"⟩, 6) := ⟨⟨by decide +kernel, by decide +kernel⟩, List.mem_of_getElem? (i := 27) (by decide +kernel), List.mem_of_getElem? (i := 387) (by decide +kernel), List.mem_of_getElem? (i := 388) (by decide +kernel)⟩
theorem lw_p4 : lw_okq (⟨"DropBoxLoom$Gear", "shuttleOn", "(I)I"⟩, 6) := ⟨⟨by decide +kernel, by decide +kernel⟩, List.mem_of_getElem? (i := 27) (by decide +kernel), List.mem_of_getElem? (i := 402) (by decide +kernel), List.mem_of_getElem? (i := 403) (by decide +kernel)⟩
theorem lw_p5 : lw_okq (⟨"DropBoxLoom$Cloth", "slotOf", "(I)I"⟩, 9) := ⟨⟨by decide +kernel, by decide +kernel⟩, List.mem_of_getElem? (i := 128) (by decide +kernel), List.mem_of_getElem? (i := 431) (by decide +kernel), List.mem_of_getElem? (i := 432) (by decide +kernel)⟩
theorem lw_p6 : lw_okq (⟨"DropBoxLoom$CardReader", "goTo", "(I)Z"⟩, 5) := ⟨⟨by decide +kernel, by decide +kernel⟩, List.mem_of_getElem? (i := 195) (by decide +kernel), List.mem_of_getElem? (i := 600) (by decide +kernel), List.mem_of_getElem? (i := 601) (by decide +kernel)⟩
theorem lw_p7 : lw_okq (⟨"DropBoxLoom$CardReader", "acceptsFrame", "(I)Z"⟩, 5) := ⟨⟨by decide +kernel, by decide +kernel⟩, List.mem_of_getElem? (i := 195) (by decide +kernel), List.mem_of_getElem? (i := 604) (by decide +kernel), List.mem_of_getElem? (i := 605) (by decide +kernel)⟩
theorem lw_p8 : lw_okq (⟨"DropBoxLoom$CardReader", "acceptsLeft", "(I)Z"⟩, 5) := ⟨⟨by decide +kernel, by decide +kernel⟩, List.mem_of_getElem? (i := 195) (by decide +kernel), List.mem_of_getElem? (i := 609) (by decide +kernel), List.mem_of_getElem? (i := 610) (by decide +kernel)⟩
theorem lw_p9 : lw_okq (⟨"DropBoxLoom$CardReader", "acceptsRight", "(I)Z"⟩, 5) := ⟨⟨by decide +kernel, by decide +kernel⟩, List.mem_of_getElem? (i := 195) (by decide +kernel), List.mem_of_getElem? (i := 614) (by decide +kernel), List.mem_of_getElem? (i := 615) (by decide +kernel)⟩
theorem lw_p10 : lw_okq (⟨"DropBoxLoom$CardReader", "startNext", "()Z"⟩, 5) := ⟨⟨by decide +kernel, by decide +kernel⟩, List.mem_of_getElem? (i := 195) (by decide +kernel), List.mem_of_getElem? (i := 618) (by decide +kernel), List.mem_of_getElem? (i := 619) (by decide +kernel)⟩
theorem lw_p11 : lw_okq (⟨"DropBoxLoom", "cardsInText", "()I"⟩, 8) := ⟨⟨by decide +kernel, by decide +kernel⟩, List.mem_of_getElem? (i := 13) (by decide +kernel), List.mem_of_getElem? (i := 632) (by decide +kernel), List.mem_of_getElem? (i := 633) (by decide +kernel)⟩
theorem lw_p12 : lw_okq (⟨"DropBoxLoom", "hashShuttles", "(J)J"⟩, 8) := ⟨⟨by decide +kernel, by decide +kernel⟩, List.mem_of_getElem? (i := 13) (by decide +kernel), List.mem_of_getElem? (i := 647) (by decide +kernel), List.mem_of_getElem? (i := 648) (by decide +kernel)⟩
theorem lw_p13 : lw_okq (⟨"DropBoxLoom", "hashThreads", "(J)J"⟩, 8) := ⟨⟨by decide +kernel, by decide +kernel⟩, List.mem_of_getElem? (i := 13) (by decide +kernel), List.mem_of_getElem? (i := 652) (by decide +kernel), List.mem_of_getElem? (i := 653) (by decide +kernel)⟩
theorem lw_p14 : lw_okq (⟨"DropBoxLoom", "hashCards", "(J)J"⟩, 8) := ⟨⟨by decide +kernel, by decide +kernel⟩, List.mem_of_getElem? (i := 13) (by decide +kernel), List.mem_of_getElem? (i := 658) (by decide +kernel), List.mem_of_getElem? (i := 659) (by decide +kernel)⟩
theorem lw_p15 : lw_okq (⟨"DropBoxLoom", "hashCloth", "(J)J"⟩, 8) := ⟨⟨by decide +kernel, by decide +kernel⟩, List.mem_of_getElem? (i := 13) (by decide +kernel), List.mem_of_getElem? (i := 663) (by decide +kernel), List.mem_of_getElem? (i := 664) (by decide +kernel)⟩
def lw_privs_1 : List (MethodName × Nat) := [(⟨"DropBoxLoom", "saveBeforeChange", "()V"⟩, 8), (⟨"DropBoxLoom", "save", "()V"⟩, 8), (⟨"DropBoxLoom$Chain", "startAgainBehindLast", "()V"⟩, 5), (⟨"DropBoxLoom$Gear", "sideTooFar", "()I"⟩, 6), (⟨"DropBoxLoom$Gear", "shuttleOn", "(I)I"⟩, 6), (⟨"DropBoxLoom$Cloth", "slotOf", "(I)I"⟩, 9), (⟨"DropBoxLoom$CardReader", "goTo", "(I)Z"⟩, 5), (⟨"DropBoxLoom$CardReader", "acceptsFrame", "(I)Z"⟩, 5), (⟨"DropBoxLoom$CardReader", "acceptsLeft", "(I)Z"⟩, 5), (⟨"DropBoxLoom$CardReader", "acceptsRight", "(I)Z"⟩, 5), (⟨"DropBoxLoom$CardReader", "startNext", "()Z"⟩, 5), (⟨"DropBoxLoom", "cardsInText", "()I"⟩, 8), (⟨"DropBoxLoom", "hashShuttles", "(J)J"⟩, 8), (⟨"DropBoxLoom", "hashThreads", "(J)J"⟩, 8), (⟨"DropBoxLoom", "hashCards", "(J)J"⟩, 8), (⟨"DropBoxLoom", "hashCloth", "(J)J"⟩, 8)]
theorem lw_r1 : ∀ q ∈ lw_privs_1, lw_okq q := List.forall_mem_cons.mpr ⟨lw_p0, List.forall_mem_cons.mpr ⟨lw_p1, List.forall_mem_cons.mpr ⟨lw_p2, List.forall_mem_cons.mpr ⟨lw_p3, List.forall_mem_cons.mpr ⟨lw_p4, List.forall_mem_cons.mpr ⟨lw_p5, List.forall_mem_cons.mpr ⟨lw_p6, List.forall_mem_cons.mpr ⟨lw_p7, List.forall_mem_cons.mpr ⟨lw_p8, List.forall_mem_cons.mpr ⟨lw_p9, List.forall_mem_cons.mpr ⟨lw_p10, List.forall_mem_cons.mpr ⟨lw_p11, List.forall_mem_cons.mpr ⟨lw_p12, List.forall_mem_cons.mpr ⟨lw_p13, List.forall_mem_cons.mpr ⟨lw_p14, List.forall_mem_cons.mpr ⟨lw_p15, fun _ h => absurd h List.not_mem_nil⟩⟩⟩⟩⟩⟩⟩⟩⟩⟩⟩⟩⟩⟩⟩⟩
theorem lw_p16 : lw_okq (⟨"DropBoxLoomModel", "setShuttle", "(III)V"⟩, 12) := ⟨⟨by decide +kernel, by decide +kernel⟩, List.mem_of_getElem? (i := 672) (by decide +kernel), List.mem_of_getElem? (i := 678) (by decide +kernel), List.mem_of_getElem? (i := 679) (by decide +kernel)⟩
theorem lw_p17 : lw_okq (⟨"DropBoxLoomModel", "setThread", "(III)V"⟩, 12) := ⟨⟨by decide +kernel, by decide +kernel⟩, List.mem_of_getElem? (i := 672) (by decide +kernel), List.mem_of_getElem? (i := 682) (by decide +kernel), List.mem_of_getElem? (i := 683) (by decide +kernel)⟩
theorem lw_p18 : lw_okq (⟨"DropBoxLoomModel", "record", "()V"⟩, 12) := ⟨⟨by decide +kernel, by decide +kernel⟩, List.mem_of_getElem? (i := 672) (by decide +kernel), List.mem_of_getElem? (i := 730) (by decide +kernel), List.mem_of_getElem? (i := 731) (by decide +kernel)⟩
theorem lw_p19 : lw_okq (⟨"DropBoxLoomModel", "findReason", "(Z)V"⟩, 12) := ⟨⟨by decide +kernel, by decide +kernel⟩, List.mem_of_getElem? (i := 672) (by decide +kernel), List.mem_of_getElem? (i := 737) (by decide +kernel), List.mem_of_getElem? (i := 738) (by decide +kernel)⟩
theorem lw_p20 : lw_okq (⟨"DropBoxLoomModel", "cardPart", "(II)I"⟩, 12) := ⟨⟨by decide +kernel, by decide +kernel⟩, List.mem_of_getElem? (i := 672) (by decide +kernel), List.mem_of_getElem? (i := 741) (by decide +kernel), List.mem_of_getElem? (i := 742) (by decide +kernel)⟩
theorem lw_p21 : lw_okq (⟨"DropBoxLoomModel", "shuttleIn", "(II)I"⟩, 12) := ⟨⟨by decide +kernel, by decide +kernel⟩, List.mem_of_getElem? (i := 672) (by decide +kernel), List.mem_of_getElem? (i := 745) (by decide +kernel), List.mem_of_getElem? (i := 746) (by decide +kernel)⟩
theorem lw_p22 : lw_okq (⟨"DropBoxLoomModel", "shuttlePart", "(II)I"⟩, 12) := ⟨⟨by decide +kernel, by decide +kernel⟩, List.mem_of_getElem? (i := 672) (by decide +kernel), List.mem_of_getElem? (i := 749) (by decide +kernel), List.mem_of_getElem? (i := 750) (by decide +kernel)⟩
theorem lw_p23 : lw_okq (⟨"DropBoxLoomModel", "says", "(II)V"⟩, 12) := ⟨⟨by decide +kernel, by decide +kernel⟩, List.mem_of_getElem? (i := 672) (by decide +kernel), List.mem_of_getElem? (i := 753) (by decide +kernel), List.mem_of_getElem? (i := 754) (by decide +kernel)⟩
theorem lw_p24 : lw_okq (⟨"DropBoxLoomModel", "firstBroken", "()I"⟩, 12) := ⟨⟨by decide +kernel, by decide +kernel⟩, List.mem_of_getElem? (i := 672) (by decide +kernel), List.mem_of_getElem? (i := 757) (by decide +kernel), List.mem_of_getElem? (i := 758) (by decide +kernel)⟩
theorem lw_p25 : lw_okq (⟨"DropBoxLoomModel", "threadPart", "(II)I"⟩, 12) := ⟨⟨by decide +kernel, by decide +kernel⟩, List.mem_of_getElem? (i := 672) (by decide +kernel), List.mem_of_getElem? (i := 761) (by decide +kernel), List.mem_of_getElem? (i := 762) (by decide +kernel)⟩
theorem lw_p26 : lw_okq (⟨"DropBoxLoomModel", "isTooFar", "(I)Z"⟩, 12) := ⟨⟨by decide +kernel, by decide +kernel⟩, List.mem_of_getElem? (i := 672) (by decide +kernel), List.mem_of_getElem? (i := 765) (by decide +kernel), List.mem_of_getElem? (i := 766) (by decide +kernel)⟩
theorem lw_p27 : lw_okq (⟨"DropBoxLoomModel", "addsRow", "()V"⟩, 12) := ⟨⟨by decide +kernel, by decide +kernel⟩, List.mem_of_getElem? (i := 672) (by decide +kernel), List.mem_of_getElem? (i := 769) (by decide +kernel), List.mem_of_getElem? (i := 770) (by decide +kernel)⟩
theorem lw_p28 : lw_okq (⟨"DropBoxLoomModel", "threadsOf", "(I)I"⟩, 12) := ⟨⟨by decide +kernel, by decide +kernel⟩, List.mem_of_getElem? (i := 672) (by decide +kernel), List.mem_of_getElem? (i := 773) (by decide +kernel), List.mem_of_getElem? (i := 774) (by decide +kernel)⟩
theorem lw_p29 : lw_okq (⟨"DropBoxLoomModel", "moves", "()V"⟩, 12) := ⟨⟨by decide +kernel, by decide +kernel⟩, List.mem_of_getElem? (i := 672) (by decide +kernel), List.mem_of_getElem? (i := 777) (by decide +kernel), List.mem_of_getElem? (i := 778) (by decide +kernel)⟩
theorem lw_p30 : lw_okq (⟨"DropBoxLoomModel", "rowPart", "(II)I"⟩, 12) := ⟨⟨by decide +kernel, by decide +kernel⟩, List.mem_of_getElem? (i := 672) (by decide +kernel), List.mem_of_getElem? (i := 785) (by decide +kernel), List.mem_of_getElem? (i := 786) (by decide +kernel)⟩
theorem lw_p31 : lw_okq (⟨"DropBoxLoomModel", "recordOther", "()V"⟩, 12) := ⟨⟨by decide +kernel, by decide +kernel⟩, List.mem_of_getElem? (i := 672) (by decide +kernel), List.mem_of_getElem? (i := 799) (by decide +kernel), List.mem_of_getElem? (i := 800) (by decide +kernel)⟩
def lw_privs_2 : List (MethodName × Nat) := [(⟨"DropBoxLoomModel", "setShuttle", "(III)V"⟩, 12), (⟨"DropBoxLoomModel", "setThread", "(III)V"⟩, 12), (⟨"DropBoxLoomModel", "record", "()V"⟩, 12), (⟨"DropBoxLoomModel", "findReason", "(Z)V"⟩, 12), (⟨"DropBoxLoomModel", "cardPart", "(II)I"⟩, 12), (⟨"DropBoxLoomModel", "shuttleIn", "(II)I"⟩, 12), (⟨"DropBoxLoomModel", "shuttlePart", "(II)I"⟩, 12), (⟨"DropBoxLoomModel", "says", "(II)V"⟩, 12), (⟨"DropBoxLoomModel", "firstBroken", "()I"⟩, 12), (⟨"DropBoxLoomModel", "threadPart", "(II)I"⟩, 12), (⟨"DropBoxLoomModel", "isTooFar", "(I)Z"⟩, 12), (⟨"DropBoxLoomModel", "addsRow", "()V"⟩, 12), (⟨"DropBoxLoomModel", "threadsOf", "(I)I"⟩, 12), (⟨"DropBoxLoomModel", "moves", "()V"⟩, 12), (⟨"DropBoxLoomModel", "rowPart", "(II)I"⟩, 12), (⟨"DropBoxLoomModel", "recordOther", "()V"⟩, 12)]
theorem lw_r2 : ∀ q ∈ lw_privs_2, lw_okq q := List.forall_mem_cons.mpr ⟨lw_p16, List.forall_mem_cons.mpr ⟨lw_p17, List.forall_mem_cons.mpr ⟨lw_p18, List.forall_mem_cons.mpr ⟨lw_p19, List.forall_mem_cons.mpr ⟨lw_p20, List.forall_mem_cons.mpr ⟨lw_p21, List.forall_mem_cons.mpr ⟨lw_p22, List.forall_mem_cons.mpr ⟨lw_p23, List.forall_mem_cons.mpr ⟨lw_p24, List.forall_mem_cons.mpr ⟨lw_p25, List.forall_mem_cons.mpr ⟨lw_p26, List.forall_mem_cons.mpr ⟨lw_p27, List.forall_mem_cons.mpr ⟨lw_p28, List.forall_mem_cons.mpr ⟨lw_p29, List.forall_mem_cons.mpr ⟨lw_p30, List.forall_mem_cons.mpr ⟨lw_p31, fun _ h => absurd h List.not_mem_nil⟩⟩⟩⟩⟩⟩⟩⟩⟩⟩⟩⟩⟩⟩⟩⟩
theorem lw_p32 : lw_okq (⟨"DropBoxLoomModel", "inBoxes", "()I"⟩, 12) := ⟨⟨by decide +kernel, by decide +kernel⟩, List.mem_of_getElem? (i := 672) (by decide +kernel), List.mem_of_getElem? (i := 803) (by decide +kernel), List.mem_of_getElem? (i := 804) (by decide +kernel)⟩
theorem lw_p33 : lw_okq (⟨"DropBoxLoomModel", "sets", "(II)I"⟩, 12) := ⟨⟨by decide +kernel, by decide +kernel⟩, List.mem_of_getElem? (i := 672) (by decide +kernel), List.mem_of_getElem? (i := 819) (by decide +kernel), List.mem_of_getElem? (i := 820) (by decide +kernel)⟩
theorem lw_p34 : lw_okq (⟨"DropBoxLoomModel", "addsCard", "(III)V"⟩, 12) := ⟨⟨by decide +kernel, by decide +kernel⟩, List.mem_of_getElem? (i := 672) (by decide +kernel), List.mem_of_getElem? (i := 842) (by decide +kernel), List.mem_of_getElem? (i := 843) (by decide +kernel)⟩
theorem lw_p35 : lw_okq (⟨"DropBoxLoomModel", "isCard", "(I)Z"⟩, 12) := ⟨⟨by decide +kernel, by decide +kernel⟩, List.mem_of_getElem? (i := 672) (by decide +kernel), List.mem_of_getElem? (i := 850) (by decide +kernel), List.mem_of_getElem? (i := 851) (by decide +kernel)⟩
theorem lw_p36 : lw_okq (⟨"DropBoxLoomModel", "ofThread", "(II)I"⟩, 12) := ⟨⟨by decide +kernel, by decide +kernel⟩, List.mem_of_getElem? (i := 672) (by decide +kernel), List.mem_of_getElem? (i := 874) (by decide +kernel), List.mem_of_getElem? (i := 875) (by decide +kernel)⟩
theorem lw_p37 : lw_okq (⟨"DropBoxLoomModel", "ofCard", "(II)I"⟩, 12) := ⟨⟨by decide +kernel, by decide +kernel⟩, List.mem_of_getElem? (i := 672) (by decide +kernel), List.mem_of_getElem? (i := 882) (by decide +kernel), List.mem_of_getElem? (i := 883) (by decide +kernel)⟩
theorem lw_p38 : lw_okq (⟨"DropBoxLoomModel", "shown", "(II)I"⟩, 12) := ⟨⟨by decide +kernel, by decide +kernel⟩, List.mem_of_getElem? (i := 672) (by decide +kernel), List.mem_of_getElem? (i := 890) (by decide +kernel), List.mem_of_getElem? (i := 891) (by decide +kernel)⟩
theorem lw_p39 : lw_okq (⟨"DropBoxLoomModel", "floatOf", "(I)I"⟩, 12) := ⟨⟨by decide +kernel, by decide +kernel⟩, List.mem_of_getElem? (i := 672) (by decide +kernel), List.mem_of_getElem? (i := 898) (by decide +kernel), List.mem_of_getElem? (i := 899) (by decide +kernel)⟩
theorem lw_p40 : lw_okq (⟨"DropBoxLoomModel", "nextReason", "()I"⟩, 12) := ⟨⟨by decide +kernel, by decide +kernel⟩, List.mem_of_getElem? (i := 672) (by decide +kernel), List.mem_of_getElem? (i := 906) (by decide +kernel), List.mem_of_getElem? (i := 907) (by decide +kernel)⟩
theorem lw_p41 : lw_okq (⟨"DropBoxLoomModel", "left", "()I"⟩, 12) := ⟨⟨by decide +kernel, by decide +kernel⟩, List.mem_of_getElem? (i := 672) (by decide +kernel), List.mem_of_getElem? (i := 914) (by decide +kernel), List.mem_of_getElem? (i := 915) (by decide +kernel)⟩
theorem lw_p42 : lw_okq (⟨"DropBoxLoomModel", "emptyOne", "()I"⟩, 12) := ⟨⟨by decide +kernel, by decide +kernel⟩, List.mem_of_getElem? (i := 672) (by decide +kernel), List.mem_of_getElem? (i := 922) (by decide +kernel), List.mem_of_getElem? (i := 923) (by decide +kernel)⟩
theorem lw_p43 : lw_okq (⟨"DropBoxLoomModel", "isRepeating", "()I"⟩, 12) := ⟨⟨by decide +kernel, by decide +kernel⟩, List.mem_of_getElem? (i := 672) (by decide +kernel), List.mem_of_getElem? (i := 930) (by decide +kernel), List.mem_of_getElem? (i := 931) (by decide +kernel)⟩
theorem lw_p44 : lw_okq (⟨"DropBoxLoomModel", "findError", "()I"⟩, 12) := ⟨⟨by decide +kernel, by decide +kernel⟩, List.mem_of_getElem? (i := 672) (by decide +kernel), List.mem_of_getElem? (i := 946) (by decide +kernel), List.mem_of_getElem? (i := 947) (by decide +kernel)⟩
theorem lw_p45 : lw_okq (⟨"DropBoxLoomModel", "readsCard", "()Z"⟩, 12) := ⟨⟨by decide +kernel, by decide +kernel⟩, List.mem_of_getElem? (i := 672) (by decide +kernel), List.mem_of_getElem? (i := 950) (by decide +kernel), List.mem_of_getElem? (i := 951) (by decide +kernel)⟩
theorem lw_p46 : lw_okq (⟨"DropBoxLoomModel", "character", "(I)I"⟩, 12) := ⟨⟨by decide +kernel, by decide +kernel⟩, List.mem_of_getElem? (i := 672) (by decide +kernel), List.mem_of_getElem? (i := 954) (by decide +kernel), List.mem_of_getElem? (i := 955) (by decide +kernel)⟩
theorem lw_p47 : lw_okq (⟨"DropBoxLoomModel", "isNext", "(I)Z"⟩, 12) := ⟨⟨by decide +kernel, by decide +kernel⟩, List.mem_of_getElem? (i := 672) (by decide +kernel), List.mem_of_getElem? (i := 958) (by decide +kernel), List.mem_of_getElem? (i := 959) (by decide +kernel)⟩
def lw_privs_3 : List (MethodName × Nat) := [(⟨"DropBoxLoomModel", "inBoxes", "()I"⟩, 12), (⟨"DropBoxLoomModel", "sets", "(II)I"⟩, 12), (⟨"DropBoxLoomModel", "addsCard", "(III)V"⟩, 12), (⟨"DropBoxLoomModel", "isCard", "(I)Z"⟩, 12), (⟨"DropBoxLoomModel", "ofThread", "(II)I"⟩, 12), (⟨"DropBoxLoomModel", "ofCard", "(II)I"⟩, 12), (⟨"DropBoxLoomModel", "shown", "(II)I"⟩, 12), (⟨"DropBoxLoomModel", "floatOf", "(I)I"⟩, 12), (⟨"DropBoxLoomModel", "nextReason", "()I"⟩, 12), (⟨"DropBoxLoomModel", "left", "()I"⟩, 12), (⟨"DropBoxLoomModel", "emptyOne", "()I"⟩, 12), (⟨"DropBoxLoomModel", "isRepeating", "()I"⟩, 12), (⟨"DropBoxLoomModel", "findError", "()I"⟩, 12), (⟨"DropBoxLoomModel", "readsCard", "()Z"⟩, 12), (⟨"DropBoxLoomModel", "character", "(I)I"⟩, 12), (⟨"DropBoxLoomModel", "isNext", "(I)Z"⟩, 12)]
theorem lw_r3 : ∀ q ∈ lw_privs_3, lw_okq q := List.forall_mem_cons.mpr ⟨lw_p32, List.forall_mem_cons.mpr ⟨lw_p33, List.forall_mem_cons.mpr ⟨lw_p34, List.forall_mem_cons.mpr ⟨lw_p35, List.forall_mem_cons.mpr ⟨lw_p36, List.forall_mem_cons.mpr ⟨lw_p37, List.forall_mem_cons.mpr ⟨lw_p38, List.forall_mem_cons.mpr ⟨lw_p39, List.forall_mem_cons.mpr ⟨lw_p40, List.forall_mem_cons.mpr ⟨lw_p41, List.forall_mem_cons.mpr ⟨lw_p42, List.forall_mem_cons.mpr ⟨lw_p43, List.forall_mem_cons.mpr ⟨lw_p44, List.forall_mem_cons.mpr ⟨lw_p45, List.forall_mem_cons.mpr ⟨lw_p46, List.forall_mem_cons.mpr ⟨lw_p47, fun _ h => absurd h List.not_mem_nil⟩⟩⟩⟩⟩⟩⟩⟩⟩⟩⟩⟩⟩⟩⟩⟩
def lw_privs : List (MethodName × Nat) := lw_privs_1 ++ (lw_privs_2 ++ (lw_privs_3))
def lw_tbl : List Cond := k2_sels lw_privs ++ tables_1
theorem lw_privs_ok : ∀ q ∈ lw_privs, lw_okq q := by
  show ∀ q ∈ lw_privs_1 ++ (lw_privs_2 ++ (lw_privs_3)), lw_okq q
  exact List.forall_mem_append.mpr ⟨lw_r1, List.forall_mem_append.mpr ⟨lw_r2, lw_r3⟩⟩
end
section
/-! names, out of the printed text of this claim -/
def RX0 : String := "DropBoxLoom$CardReader"
def TX0 : u_T := fun k => match k with
  | 0 => ("DropBoxLoom$CardReader", "frames", "I", false)
  | 1 => ("DropBoxLoom$CardReader", "left", "I", false)
  | 2 => ("DropBoxLoom$CardReader", "right", "I", false)
  | 3 => ("DropBoxLoom$CardReader", "step", "I", false)
  | _ => ("DropBoxLoom$CardReader", "lowestFrame", "I", false)
def tyX0 : Nat → FieldType := fun k => match k with
  | 0 => .int
  | 1 => .int
  | 2 => .int
  | 3 => .int
  | _ => .int
theorem nmX0 : ∀ a, a < 5 → ∀ b, b < 5 → a ≠ b → (TX0 a).2.1 ≠ (TX0 b).2.1 := by decide +kernel
theorem tyX0_ok : ∀ k, k < 5 → parseFieldDescriptor (TX0 k).2.2.1 = some (tyX0 k) := by decide +kernel
abbrev cX0_init : ByteArray := prog_2_method_1_code
def yX0_init : MethodName := ⟨RX0, "<init>", "()V"⟩
abbrev cX0_start : ByteArray := prog_2_method_2_code
def yX0_start : MethodName := ⟨RX0, "start", "()V"⟩
abbrev cX0_isBehindCard : ByteArray := prog_2_method_3_code
def yX0_isBehindCard : MethodName := ⟨RX0, "isBehindCard", "()Z"⟩
abbrev cX0_accepts : ByteArray := prog_2_method_4_code
def yX0_accepts : MethodName := ⟨RX0, "accepts", "(C)Z"⟩
abbrev cX0_acceptsFrame : ByteArray := prog_2_method_5_code
def yX0_acceptsFrame : MethodName := ⟨RX0, "acceptsFrame", "(I)Z"⟩
abbrev cX0_acceptsLeft : ByteArray := prog_2_method_6_code
def yX0_acceptsLeft : MethodName := ⟨RX0, "acceptsLeft", "(I)Z"⟩
abbrev cX0_acceptsRight : ByteArray := prog_2_method_7_code
def yX0_acceptsRight : MethodName := ⟨RX0, "acceptsRight", "(I)Z"⟩
abbrev cX0_startNext : ByteArray := prog_2_method_8_code
def yX0_startNext : MethodName := ⟨RX0, "startNext", "()Z"⟩
abbrev cX0_goTo : ByteArray := prog_2_method_9_code
def yX0_goTo : MethodName := ⟨RX0, "goTo", "(I)Z"⟩
def RX1 : String := "DropBoxLoom$Chain"
def TX1 : u_T := fun k => match k with
  | 0 => ("DropBoxLoom$Chain", "frames", "[I", true)
  | 1 => ("DropBoxLoom$Chain", "left", "[I", true)
  | 2 => ("DropBoxLoom$Chain", "right", "[I", true)
  | 3 => ("DropBoxLoom$Chain", "cards", "I", false)
  | _ => ("DropBoxLoom$Chain", "place", "I", false)
def tyX1 : Nat → FieldType := fun k => match k with
  | 0 => .array .int
  | 1 => .array .int
  | 2 => .array .int
  | 3 => .int
  | _ => .int
theorem nmX1 : ∀ a, a < 5 → ∀ b, b < 5 → a ≠ b → (TX1 a).2.1 ≠ (TX1 b).2.1 := by decide +kernel
theorem tyX1_ok : ∀ k, k < 5 → parseFieldDescriptor (TX1 k).2.2.1 = some (tyX1 k) := by decide +kernel
abbrev cX1_init : ByteArray := prog_3_method_1_code
def yX1_init : MethodName := ⟨RX1, "<init>", "()V"⟩
abbrev cX1_copyFrom : ByteArray := prog_3_method_2_code
def yX1_copyFrom : MethodName := ⟨RX1, "copyFrom", "(LDropBoxLoom$Chain;)V"⟩
abbrev cX1_has : ByteArray := prog_3_method_3_code
def yX1_has : MethodName := ⟨RX1, "has", "(I)Z"⟩
abbrev cX1_framesOf : ByteArray := prog_3_method_4_code
def yX1_framesOf : MethodName := ⟨RX1, "framesOf", "(I)I"⟩
abbrev cX1_boxOf : ByteArray := prog_3_method_5_code
def yX1_boxOf : MethodName := ⟨RX1, "boxOf", "(II)I"⟩
abbrev cX1_append : ByteArray := prog_3_method_6_code
def yX1_append : MethodName := ⟨RX1, "append", "(III)V"⟩
abbrev cX1_remove : ByteArray := prog_3_method_7_code
def yX1_remove : MethodName := ⟨RX1, "remove", "(I)V"⟩
abbrev cX1_goOn : ByteArray := prog_3_method_8_code
def yX1_goOn : MethodName := ⟨RX1, "goOn", "()V"⟩
abbrev cX1_startAgainBehindLast : ByteArray := prog_3_method_9_code
def yX1_startAgainBehindLast : MethodName := ⟨RX1, "startAgainBehindLast", "()V"⟩
def RX2 : String := "DropBoxLoom$Cloth"
def TX2 : u_T := fun k => match k with
  | 0 => ("DropBoxLoom$Cloth", "colour", "[I", true)
  | 1 => ("DropBoxLoom$Cloth", "threads", "[I", true)
  | 2 => ("DropBoxLoom$Cloth", "flown", "[I", true)
  | 3 => ("DropBoxLoom$Cloth", "place", "[I", true)
  | 4 => ("DropBoxLoom$Cloth", "lifted", "[I", true)
  | 5 => ("DropBoxLoom$Cloth", "left", "[I", true)
  | 6 => ("DropBoxLoom$Cloth", "right", "[I", true)
  | 7 => ("DropBoxLoom$Cloth", "rows", "I", false)
  | _ => ("DropBoxLoom$Cloth", "latest", "I", false)
def tyX2 : Nat → FieldType := fun k => match k with
  | 0 => .array .int
  | 1 => .array .int
  | 2 => .array .int
  | 3 => .array .int
  | 4 => .array .int
  | 5 => .array .int
  | 6 => .array .int
  | 7 => .int
  | _ => .int
theorem nmX2 : ∀ a, a < 9 → ∀ b, b < 9 → a ≠ b → (TX2 a).2.1 ≠ (TX2 b).2.1 := by decide +kernel
theorem tyX2_ok : ∀ k, k < 9 → parseFieldDescriptor (TX2 k).2.2.1 = some (tyX2 k) := by decide +kernel
abbrev cX2_init : ByteArray := prog_4_method_1_code
def yX2_init : MethodName := ⟨RX2, "<init>", "()V"⟩
abbrev cX2_copyFrom : ByteArray := prog_4_method_2_code
def yX2_copyFrom : MethodName := ⟨RX2, "copyFrom", "(LDropBoxLoom$Cloth;)V"⟩
abbrev cX2_has : ByteArray := prog_4_method_3_code
def yX2_has : MethodName := ⟨RX2, "has", "(I)Z"⟩
abbrev cX2_colourOf : ByteArray := prog_4_method_4_code
def yX2_colourOf : MethodName := ⟨RX2, "colourOf", "(I)I"⟩
abbrev cX2_isLifted : ByteArray := prog_4_method_5_code
def yX2_isLifted : MethodName := ⟨RX2, "isLifted", "(II)Z"⟩
abbrev cX2_longestFloatOf : ByteArray := prog_4_method_6_code
def yX2_longestFloatOf : MethodName := ⟨RX2, "longestFloatOf", "(I)I"⟩
abbrev cX2_addRowOf : ByteArray := prog_4_method_7_code
def yX2_addRowOf : MethodName := ⟨RX2, "addRowOf", "(LDropBoxLoom$Gear;)V"⟩
abbrev cX2_takeRowBack : ByteArray := prog_4_method_8_code
def yX2_takeRowBack : MethodName := ⟨RX2, "takeRowBack", "(LDropBoxLoom$Gear;)V"⟩
abbrev cX2_slotOf : ByteArray := prog_4_method_9_code
def yX2_slotOf : MethodName := ⟨RX2, "slotOf", "(I)I"⟩
def RX3 : String := "DropBoxLoom$Gear"
def TX3 : u_T := fun k => match k with
  | 0 => ("DropBoxLoom$Gear", "shuttles", "LDropBoxLoom$Shuttles;", true)
  | 1 => ("DropBoxLoom$Gear", "threads", "LDropBoxLoom$Threads;", true)
  | 2 => ("DropBoxLoom$Gear", "chain", "LDropBoxLoom$Chain;", true)
  | 3 => ("DropBoxLoom$Gear", "atRace", "[I", true)
  | 4 => ("DropBoxLoom$Gear", "speed", "I", false)
  | _ => ("DropBoxLoom$Gear", "lifted", "I", false)
def tyX3 : Nat → FieldType := fun k => match k with
  | 0 => .object "DropBoxLoom$Shuttles"
  | 1 => .object "DropBoxLoom$Threads"
  | 2 => .object "DropBoxLoom$Chain"
  | 3 => .array .int
  | 4 => .int
  | _ => .int
theorem nmX3 : ∀ a, a < 6 → ∀ b, b < 6 → a ≠ b → (TX3 a).2.1 ≠ (TX3 b).2.1 := by decide +kernel
theorem tyX3_ok : ∀ k, k < 6 → parseFieldDescriptor (TX3 k).2.2.1 = some (tyX3 k) := by decide +kernel
abbrev cX3_init : ByteArray := prog_5_method_1_code
def yX3_init : MethodName := ⟨RX3, "<init>", "()V"⟩
abbrev cX3_copyFrom : ByteArray := prog_5_method_2_code
def yX3_copyFrom : MethodName := ⟨RX3, "copyFrom", "(LDropBoxLoom$Gear;)V"⟩
abbrev cX3_reasonToStop : ByteArray := prog_5_method_3_code
def yX3_reasonToStop : MethodName := ⟨RX3, "reasonToStop", "()I"⟩
abbrev cX3_reasonOfCardOrShuttle : ByteArray := prog_5_method_4_code
def yX3_reasonOfCardOrShuttle : MethodName := ⟨RX3, "reasonOfCardOrShuttle", "()I"⟩
abbrev cX3_numberTold : ByteArray := prog_5_method_5_code
def yX3_numberTold : MethodName := ⟨RX3, "numberTold", "(I)I"⟩
abbrev cX3_flyingShuttle : ByteArray := prog_5_method_6_code
def yX3_flyingShuttle : MethodName := ⟨RX3, "flyingShuttle", "()I"⟩
abbrev cX3_frames : ByteArray := prog_5_method_7_code
def yX3_frames : MethodName := ⟨RX3, "frames", "()I"⟩
abbrev cX3_makePick : ByteArray := prog_5_method_8_code
def yX3_makePick : MethodName := ⟨RX3, "makePick", "()V"⟩
abbrev cX3_fly : ByteArray := prog_5_method_9_code
def yX3_fly : MethodName := ⟨RX3, "fly", "(II)V"⟩
abbrev cX3_moveRaces : ByteArray := prog_5_method_10_code
def yX3_moveRaces : MethodName := ⟨RX3, "moveRaces", "(II)V"⟩
abbrev cX3_shuttleOn : ByteArray := prog_5_method_11_code
def yX3_shuttleOn : MethodName := ⟨RX3, "shuttleOn", "(I)I"⟩
abbrev cX3_sideTooFar : ByteArray := prog_5_method_12_code
def yX3_sideTooFar : MethodName := ⟨RX3, "sideTooFar", "()I"⟩
def RX4 : String := "DropBoxLoom$Loom"
def TX4 : u_T := fun k => match k with
  | 0 => ("DropBoxLoom$Loom", "gear", "LDropBoxLoom$Gear;", true)
  | 1 => ("DropBoxLoom$Loom", "cloth", "LDropBoxLoom$Cloth;", true)
  | 2 => ("DropBoxLoom$Loom", "picks", "I", false)
  | 3 => ("DropBoxLoom$Loom", "takeable", "I", false)
  | 4 => ("DropBoxLoom$Loom", "stopReason", "I", false)
  | 5 => ("DropBoxLoom$Loom", "stopNumber", "I", false)
  | _ => ("DropBoxLoom$Loom", "stops", "I", false)
def tyX4 : Nat → FieldType := fun k => match k with
  | 0 => .object "DropBoxLoom$Gear"
  | 1 => .object "DropBoxLoom$Cloth"
  | 2 => .int
  | 3 => .int
  | 4 => .int
  | 5 => .int
  | _ => .int
theorem nmX4 : ∀ a, a < 7 → ∀ b, b < 7 → a ≠ b → (TX4 a).2.1 ≠ (TX4 b).2.1 := by decide +kernel
theorem tyX4_ok : ∀ k, k < 7 → parseFieldDescriptor (TX4 k).2.2.1 = some (tyX4 k) := by decide +kernel
abbrev cX4_init : ByteArray := prog_6_method_1_code
def yX4_init : MethodName := ⟨RX4, "<init>", "()V"⟩
abbrev cX4_copyFrom : ByteArray := prog_6_method_2_code
def yX4_copyFrom : MethodName := ⟨RX4, "copyFrom", "(LDropBoxLoom$Loom;)V"⟩
abbrev cX4_makePick : ByteArray := prog_6_method_3_code
def yX4_makePick : MethodName := ⟨RX4, "makePick", "()V"⟩
abbrev cX4_takePickBack : ByteArray := prog_6_method_4_code
def yX4_takePickBack : MethodName := ⟨RX4, "takePickBack", "()V"⟩
abbrev cX4_noteStop : ByteArray := prog_6_method_5_code
def yX4_noteStop : MethodName := ⟨RX4, "noteStop", "(I)V"⟩
def RX5 : String := "DropBoxLoom$Shuttles"
def TX5 : u_T := fun k => match k with
  | 0 => ("DropBoxLoom$Shuttles", "colour", "[I", true)
  | 1 => ("DropBoxLoom$Shuttles", "yarn", "[I", true)
  | 2 => ("DropBoxLoom$Shuttles", "side", "[I", true)
  | _ => ("DropBoxLoom$Shuttles", "box", "[I", true)
def tyX5 : Nat → FieldType := fun k => match k with
  | 0 => .array .int
  | 1 => .array .int
  | 2 => .array .int
  | _ => .array .int
theorem nmX5 : ∀ a, a < 4 → ∀ b, b < 4 → a ≠ b → (TX5 a).2.1 ≠ (TX5 b).2.1 := by decide +kernel
theorem tyX5_ok : ∀ k, k < 4 → parseFieldDescriptor (TX5 k).2.2.1 = some (tyX5 k) := by decide +kernel
abbrev cX5_init : ByteArray := prog_7_method_1_code
def yX5_init : MethodName := ⟨RX5, "<init>", "()V"⟩
abbrev cX5_copyFrom : ByteArray := prog_7_method_2_code
def yX5_copyFrom : MethodName := ⟨RX5, "copyFrom", "(LDropBoxLoom$Shuttles;)V"⟩
abbrev cX5_isInDrawer : ByteArray := prog_7_method_3_code
def yX5_isInDrawer : MethodName := ⟨RX5, "isInDrawer", "(I)Z"⟩
abbrev cX5_isOnLeft : ByteArray := prog_7_method_4_code
def yX5_isOnLeft : MethodName := ⟨RX5, "isOnLeft", "(I)Z"⟩
abbrev cX5_hasYarn : ByteArray := prog_7_method_5_code
def yX5_hasYarn : MethodName := ⟨RX5, "hasYarn", "(I)Z"⟩
abbrev cX5_colourOf : ByteArray := prog_7_method_6_code
def yX5_colourOf : MethodName := ⟨RX5, "colourOf", "(I)I"⟩
abbrev cX5_findIn : ByteArray := prog_7_method_7_code
def yX5_findIn : MethodName := ⟨RX5, "findIn", "(II)I"⟩
abbrev cX5_numberInBoxes : ByteArray := prog_7_method_8_code
def yX5_numberInBoxes : MethodName := ⟨RX5, "numberInBoxes", "()I"⟩
abbrev cX5_place : ByteArray := prog_7_method_9_code
def yX5_place : MethodName := ⟨RX5, "place", "(III)V"⟩
abbrev cX5_addYarn : ByteArray := prog_7_method_10_code
def yX5_addYarn : MethodName := ⟨RX5, "addYarn", "(II)V"⟩
abbrev cX5_standAs : ByteArray := prog_7_method_11_code
def yX5_standAs : MethodName := ⟨RX5, "standAs", "(LDropBoxLoom$Shuttles;)Z"⟩
def RX6 : String := "DropBoxLoom$Threads"
def TX6 : u_T := fun k => match k with
  | 0 => ("DropBoxLoom$Threads", "frame", "[I", true)
  | _ => ("DropBoxLoom$Threads", "strength", "[I", true)
def tyX6 : Nat → FieldType := fun k => match k with
  | 0 => .array .int
  | _ => .array .int
theorem nmX6 : ∀ a, a < 2 → ∀ b, b < 2 → a ≠ b → (TX6 a).2.1 ≠ (TX6 b).2.1 := by decide +kernel
theorem tyX6_ok : ∀ k, k < 2 → parseFieldDescriptor (TX6 k).2.2.1 = some (tyX6 k) := by decide +kernel
abbrev cX6_init : ByteArray := prog_8_method_1_code
def yX6_init : MethodName := ⟨RX6, "<init>", "()V"⟩
abbrev cX6_copyFrom : ByteArray := prog_8_method_2_code
def yX6_copyFrom : MethodName := ⟨RX6, "copyFrom", "(LDropBoxLoom$Threads;)V"⟩
abbrev cX6_firstBroken : ByteArray := prog_8_method_3_code
def yX6_firstBroken : MethodName := ⟨RX6, "firstBroken", "()I"⟩
abbrev cX6_inFrames : ByteArray := prog_8_method_4_code
def yX6_inFrames : MethodName := ⟨RX6, "inFrames", "(I)I"⟩
abbrev cX6_wearOut : ByteArray := prog_8_method_5_code
def yX6_wearOut : MethodName := ⟨RX6, "wearOut", "(I)V"⟩
def RX7 : String := "DropBoxLoom"
def TX7 : u_T := fun k => match k with
  | 0 => ("DropBoxLoom", "now", "LDropBoxLoom$Loom;", true)
  | 1 => ("DropBoxLoom", "saved", "[LDropBoxLoom$Loom;", true)
  | 2 => ("DropBoxLoom", "savedStates", "I", false)
  | 3 => ("DropBoxLoom", "latestSaved", "I", false)
  | 4 => ("DropBoxLoom", "forecast", "LDropBoxLoom$Gear;", true)
  | 5 => ("DropBoxLoom", "reader", "LDropBoxLoom$CardReader;", true)
  | 6 => ("DropBoxLoom", "text", "[C", true)
  | _ => ("DropBoxLoom", "textLength", "I", false)
def tyX7 : Nat → FieldType := fun k => match k with
  | 0 => .object "DropBoxLoom$Loom"
  | 1 => .array (.object "DropBoxLoom$Loom")
  | 2 => .int
  | 3 => .int
  | 4 => .object "DropBoxLoom$Gear"
  | 5 => .object "DropBoxLoom$CardReader"
  | 6 => .array .char
  | _ => .int
theorem nmX7 : ∀ a, a < 8 → ∀ b, b < 8 → a ≠ b → (TX7 a).2.1 ≠ (TX7 b).2.1 := by decide +kernel
theorem tyX7_ok : ∀ k, k < 8 → parseFieldDescriptor (TX7 k).2.2.1 = some (tyX7 k) := by decide +kernel
abbrev cX7_init : ByteArray := prog_1_method_1_code
def yX7_init : MethodName := ⟨RX7, "<init>", "()V"⟩
abbrev cX7_putIn : ByteArray := prog_1_method_2_code
def yX7_putIn : MethodName := ⟨RX7, "putIn", "(III)I"⟩
abbrev cX7_takeOut : ByteArray := prog_1_method_3_code
def yX7_takeOut : MethodName := ⟨RX7, "takeOut", "(I)I"⟩
abbrev cX7_wind : ByteArray := prog_1_method_4_code
def yX7_wind : MethodName := ⟨RX7, "wind", "(III)I"⟩
abbrev cX7_moveBoxes : ByteArray := prog_1_method_5_code
def yX7_moveBoxes : MethodName := ⟨RX7, "moveBoxes", "(II)I"⟩
abbrev cX7_draw : ByteArray := prog_1_method_6_code
def yX7_draw : MethodName := ⟨RX7, "draw", "(II)I"⟩
abbrev cX7_mend : ByteArray := prog_1_method_7_code
def yX7_mend : MethodName := ⟨RX7, "mend", "(II)I"⟩
abbrev cX7_setSpeed : ByteArray := prog_1_method_8_code
def yX7_setSpeed : MethodName := ⟨RX7, "setSpeed", "(I)I"⟩
abbrev cX7_addCard : ByteArray := prog_1_method_9_code
def yX7_addCard : MethodName := ⟨RX7, "addCard", "(III)I"⟩
abbrev cX7_removeCard : ByteArray := prog_1_method_10_code
def yX7_removeCard : MethodName := ⟨RX7, "removeCard", "(I)I"⟩
abbrev cX7_turnTo : ByteArray := prog_1_method_11_code
def yX7_turnTo : MethodName := ⟨RX7, "turnTo", "(I)I"⟩
abbrev cX7_weave : ByteArray := prog_1_method_12_code
def yX7_weave : MethodName := ⟨RX7, "weave", "(I)I"⟩
abbrev cX7_takeBack : ByteArray := prog_1_method_13_code
def yX7_takeBack : MethodName := ⟨RX7, "takeBack", "()I"⟩
abbrev cX7_count : ByteArray := prog_1_method_14_code
def yX7_count : MethodName := ⟨RX7, "count", "(I)I"⟩
abbrev cX7_shuttle : ByteArray := prog_1_method_15_code
def yX7_shuttle : MethodName := ⟨RX7, "shuttle", "(II)I"⟩
abbrev cX7_inBox : ByteArray := prog_1_method_16_code
def yX7_inBox : MethodName := ⟨RX7, "inBox", "(II)I"⟩
abbrev cX7_thread : ByteArray := prog_1_method_17_code
def yX7_thread : MethodName := ⟨RX7, "thread", "(II)I"⟩
abbrev cX7_card : ByteArray := prog_1_method_18_code
def yX7_card : MethodName := ⟨RX7, "card", "(II)I"⟩
abbrev cX7_cloth : ByteArray := prog_1_method_19_code
def yX7_cloth : MethodName := ⟨RX7, "cloth", "(II)I"⟩
abbrev cX7_longestFloat : ByteArray := prog_1_method_20_code
def yX7_longestFloat : MethodName := ⟨RX7, "longestFloat", "(I)I"⟩
abbrev cX7_whyNot : ByteArray := prog_1_method_21_code
def yX7_whyNot : MethodName := ⟨RX7, "whyNot", "()I"⟩
abbrev cX7_picksLeft : ByteArray := prog_1_method_22_code
def yX7_picksLeft : MethodName := ⟨RX7, "picksLeft", "()I"⟩
abbrev cX7_firstEmpty : ByteArray := prog_1_method_23_code
def yX7_firstEmpty : MethodName := ⟨RX7, "firstEmpty", "()I"⟩
abbrev cX7_repeats : ByteArray := prog_1_method_24_code
def yX7_repeats : MethodName := ⟨RX7, "repeats", "()I"⟩
abbrev cX7_type : ByteArray := prog_1_method_25_code
def yX7_type : MethodName := ⟨RX7, "type", "(I)I"⟩
abbrev cX7_clearText : ByteArray := prog_1_method_26_code
def yX7_clearText : MethodName := ⟨RX7, "clearText", "()I"⟩
abbrev cX7_syntaxError : ByteArray := prog_1_method_27_code
def yX7_syntaxError : MethodName := ⟨RX7, "syntaxError", "()I"⟩
abbrev cX7_readCards : ByteArray := prog_1_method_28_code
def yX7_readCards : MethodName := ⟨RX7, "readCards", "()I"⟩
abbrev cX7_undo : ByteArray := prog_1_method_29_code
def yX7_undo : MethodName := ⟨RX7, "undo", "()I"⟩
abbrev cX7_digest : ByteArray := prog_1_method_30_code
def yX7_digest : MethodName := ⟨RX7, "digest", "()J"⟩
abbrev cX7_hashShuttles : ByteArray := prog_1_method_31_code
def yX7_hashShuttles : MethodName := ⟨RX7, "hashShuttles", "(J)J"⟩
abbrev cX7_hashThreads : ByteArray := prog_1_method_32_code
def yX7_hashThreads : MethodName := ⟨RX7, "hashThreads", "(J)J"⟩
abbrev cX7_hashCards : ByteArray := prog_1_method_33_code
def yX7_hashCards : MethodName := ⟨RX7, "hashCards", "(J)J"⟩
abbrev cX7_hashCloth : ByteArray := prog_1_method_34_code
def yX7_hashCloth : MethodName := ⟨RX7, "hashCloth", "(J)J"⟩
abbrev cX7_saveBeforeChange : ByteArray := prog_1_method_35_code
def yX7_saveBeforeChange : MethodName := ⟨RX7, "saveBeforeChange", "()V"⟩
abbrev cX7_save : ByteArray := prog_1_method_36_code
def yX7_save : MethodName := ⟨RX7, "save", "()V"⟩
abbrev cX7_cardsInText : ByteArray := prog_1_method_37_code
def yX7_cardsInText : MethodName := ⟨RX7, "cardsInText", "()I"⟩
abbrev cX7_isWithin : ByteArray := prog_1_method_38_code
def yX7_isWithin : MethodName := ⟨RX7, "isWithin", "(III)Z"⟩
abbrev cX7_isShuttle : ByteArray := prog_1_method_39_code
def yX7_isShuttle : MethodName := ⟨RX7, "isShuttle", "(I)Z"⟩
abbrev cX7_isThread : ByteArray := prog_1_method_40_code
def yX7_isThread : MethodName := ⟨RX7, "isThread", "(I)Z"⟩
abbrev cX7_isBox : ByteArray := prog_1_method_41_code
def yX7_isBox : MethodName := ⟨RX7, "isBox", "(II)Z"⟩
abbrev cX7_contains : ByteArray := prog_1_method_42_code
def yX7_contains : MethodName := ⟨RX7, "contains", "(II)Z"⟩
def RX8 : String := "DropBoxLoomModel"
def TX8 : u_T := fun k => match k with
  | 0 => ("DropBoxLoomModel", "state", "[I", true)
  | 1 => ("DropBoxLoomModel", "kept", "[I", true)
  | 2 => ("DropBoxLoomModel", "history", "[I", true)
  | 3 => ("DropBoxLoomModel", "recorded", "I", false)
  | 4 => ("DropBoxLoomModel", "text", "[I", true)
  | 5 => ("DropBoxLoomModel", "textLength", "I", false)
  | 6 => ("DropBoxLoomModel", "reason", "I", false)
  | 7 => ("DropBoxLoomModel", "reasonNumber", "I", false)
  | 8 => ("DropBoxLoomModel", "at", "I", false)
  | 9 => ("DropBoxLoomModel", "framesRead", "I", false)
  | 10 => ("DropBoxLoomModel", "leftRead", "I", false)
  | _ => ("DropBoxLoomModel", "rightRead", "I", false)
def tyX8 : Nat → FieldType := fun k => match k with
  | 0 => .array .int
  | 1 => .array .int
  | 2 => .array .int
  | 3 => .int
  | 4 => .array .int
  | 5 => .int
  | 6 => .int
  | 7 => .int
  | 8 => .int
  | 9 => .int
  | 10 => .int
  | _ => .int
theorem nmX8 : ∀ a, a < 12 → ∀ b, b < 12 → a ≠ b → (TX8 a).2.1 ≠ (TX8 b).2.1 := by decide +kernel
theorem tyX8_ok : ∀ k, k < 12 → parseFieldDescriptor (TX8 k).2.2.1 = some (tyX8 k) := by decide +kernel
abbrev cX8_init : ByteArray := prog_10_method_1_code
def yX8_init : MethodName := ⟨RX8, "<init>", "()V"⟩
abbrev cX8_within : ByteArray := prog_10_method_3_code
def yX8_within : MethodName := ⟨RX8, "within", "(III)Z"⟩
abbrev cX8_copies : ByteArray := prog_10_method_4_code
def yX8_copies : MethodName := ⟨RX8, "copies", "([II[II)V"⟩
abbrev cX8_record : ByteArray := prog_10_method_5_code
def yX8_record : MethodName := ⟨RX8, "record", "()V"⟩
abbrev cX8_recordOther : ByteArray := prog_10_method_6_code
def yX8_recordOther : MethodName := ⟨RX8, "recordOther", "()V"⟩
abbrev cX8_shuttlePart : ByteArray := prog_10_method_7_code
def yX8_shuttlePart : MethodName := ⟨RX8, "shuttlePart", "(II)I"⟩
abbrev cX8_setShuttle : ByteArray := prog_10_method_8_code
def yX8_setShuttle : MethodName := ⟨RX8, "setShuttle", "(III)V"⟩
abbrev cX8_threadPart : ByteArray := prog_10_method_9_code
def yX8_threadPart : MethodName := ⟨RX8, "threadPart", "(II)I"⟩
abbrev cX8_setThread : ByteArray := prog_10_method_10_code
def yX8_setThread : MethodName := ⟨RX8, "setThread", "(III)V"⟩
abbrev cX8_cardPart : ByteArray := prog_10_method_11_code
def yX8_cardPart : MethodName := ⟨RX8, "cardPart", "(II)I"⟩
abbrev cX8_rowPart : ByteArray := prog_10_method_12_code
def yX8_rowPart : MethodName := ⟨RX8, "rowPart", "(II)I"⟩
abbrev cX8_isShuttle : ByteArray := prog_10_method_13_code
def yX8_isShuttle : MethodName := ⟨RX8, "isShuttle", "(I)Z"⟩
abbrev cX8_isThread : ByteArray := prog_10_method_14_code
def yX8_isThread : MethodName := ⟨RX8, "isThread", "(I)Z"⟩
abbrev cX8_isBox : ByteArray := prog_10_method_15_code
def yX8_isBox : MethodName := ⟨RX8, "isBox", "(II)Z"⟩
abbrev cX8_isCard : ByteArray := prog_10_method_16_code
def yX8_isCard : MethodName := ⟨RX8, "isCard", "(I)Z"⟩
abbrev cX8_shuttleIn : ByteArray := prog_10_method_17_code
def yX8_shuttleIn : MethodName := ⟨RX8, "shuttleIn", "(II)I"⟩
abbrev cX8_threadsOf : ByteArray := prog_10_method_18_code
def yX8_threadsOf : MethodName := ⟨RX8, "threadsOf", "(I)I"⟩
abbrev cX8_firstBroken : ByteArray := prog_10_method_19_code
def yX8_firstBroken : MethodName := ⟨RX8, "firstBroken", "()I"⟩
abbrev cX8_isTooFar : ByteArray := prog_10_method_20_code
def yX8_isTooFar : MethodName := ⟨RX8, "isTooFar", "(I)Z"⟩
abbrev cX8_says : ByteArray := prog_10_method_21_code
def yX8_says : MethodName := ⟨RX8, "says", "(II)V"⟩
abbrev cX8_findReason : ByteArray := prog_10_method_22_code
def yX8_findReason : MethodName := ⟨RX8, "findReason", "(Z)V"⟩
abbrev cX8_moves : ByteArray := prog_10_method_23_code
def yX8_moves : MethodName := ⟨RX8, "moves", "()V"⟩
abbrev cX8_addsRow : ByteArray := prog_10_method_24_code
def yX8_addsRow : MethodName := ⟨RX8, "addsRow", "()V"⟩
abbrev cX8_weave : ByteArray := prog_10_method_25_code
def yX8_weave : MethodName := ⟨RX8, "weave", "(I)I"⟩
abbrev cX8_takeBack : ByteArray := prog_10_method_26_code
def yX8_takeBack : MethodName := ⟨RX8, "takeBack", "()I"⟩
abbrev cX8_inBoxes : ByteArray := prog_10_method_27_code
def yX8_inBoxes : MethodName := ⟨RX8, "inBoxes", "()I"⟩
abbrev cX8_putIn : ByteArray := prog_10_method_28_code
def yX8_putIn : MethodName := ⟨RX8, "putIn", "(III)I"⟩
abbrev cX8_takeOut : ByteArray := prog_10_method_29_code
def yX8_takeOut : MethodName := ⟨RX8, "takeOut", "(I)I"⟩
abbrev cX8_wind : ByteArray := prog_10_method_30_code
def yX8_wind : MethodName := ⟨RX8, "wind", "(III)I"⟩
abbrev cX8_sets : ByteArray := prog_10_method_31_code
def yX8_sets : MethodName := ⟨RX8, "sets", "(II)I"⟩
abbrev cX8_moveBoxes : ByteArray := prog_10_method_32_code
def yX8_moveBoxes : MethodName := ⟨RX8, "moveBoxes", "(II)I"⟩
abbrev cX8_draw : ByteArray := prog_10_method_33_code
def yX8_draw : MethodName := ⟨RX8, "draw", "(II)I"⟩
abbrev cX8_mend : ByteArray := prog_10_method_34_code
def yX8_mend : MethodName := ⟨RX8, "mend", "(II)I"⟩
abbrev cX8_setSpeed : ByteArray := prog_10_method_35_code
def yX8_setSpeed : MethodName := ⟨RX8, "setSpeed", "(I)I"⟩
abbrev cX8_addsCard : ByteArray := prog_10_method_36_code
def yX8_addsCard : MethodName := ⟨RX8, "addsCard", "(III)V"⟩
abbrev cX8_addCard : ByteArray := prog_10_method_37_code
def yX8_addCard : MethodName := ⟨RX8, "addCard", "(III)I"⟩
abbrev cX8_removeCard : ByteArray := prog_10_method_38_code
def yX8_removeCard : MethodName := ⟨RX8, "removeCard", "(I)I"⟩
abbrev cX8_turnTo : ByteArray := prog_10_method_39_code
def yX8_turnTo : MethodName := ⟨RX8, "turnTo", "(I)I"⟩
abbrev cX8_count : ByteArray := prog_10_method_40_code
def yX8_count : MethodName := ⟨RX8, "count", "(I)I"⟩
abbrev cX8_shuttle : ByteArray := prog_10_method_41_code
def yX8_shuttle : MethodName := ⟨RX8, "shuttle", "(II)I"⟩
abbrev cX8_inBox : ByteArray := prog_10_method_42_code
def yX8_inBox : MethodName := ⟨RX8, "inBox", "(II)I"⟩
abbrev cX8_ofThread : ByteArray := prog_10_method_43_code
def yX8_ofThread : MethodName := ⟨RX8, "ofThread", "(II)I"⟩
abbrev cX8_thread : ByteArray := prog_10_method_44_code
def yX8_thread : MethodName := ⟨RX8, "thread", "(II)I"⟩
abbrev cX8_ofCard : ByteArray := prog_10_method_45_code
def yX8_ofCard : MethodName := ⟨RX8, "ofCard", "(II)I"⟩
abbrev cX8_card : ByteArray := prog_10_method_46_code
def yX8_card : MethodName := ⟨RX8, "card", "(II)I"⟩
abbrev cX8_shown : ByteArray := prog_10_method_47_code
def yX8_shown : MethodName := ⟨RX8, "shown", "(II)I"⟩
abbrev cX8_cloth : ByteArray := prog_10_method_48_code
def yX8_cloth : MethodName := ⟨RX8, "cloth", "(II)I"⟩
abbrev cX8_floatOf : ByteArray := prog_10_method_49_code
def yX8_floatOf : MethodName := ⟨RX8, "floatOf", "(I)I"⟩
abbrev cX8_longestFloat : ByteArray := prog_10_method_50_code
def yX8_longestFloat : MethodName := ⟨RX8, "longestFloat", "(I)I"⟩
abbrev cX8_nextReason : ByteArray := prog_10_method_51_code
def yX8_nextReason : MethodName := ⟨RX8, "nextReason", "()I"⟩
abbrev cX8_whyNot : ByteArray := prog_10_method_52_code
def yX8_whyNot : MethodName := ⟨RX8, "whyNot", "()I"⟩
abbrev cX8_left : ByteArray := prog_10_method_53_code
def yX8_left : MethodName := ⟨RX8, "left", "()I"⟩
abbrev cX8_picksLeft : ByteArray := prog_10_method_54_code
def yX8_picksLeft : MethodName := ⟨RX8, "picksLeft", "()I"⟩
abbrev cX8_emptyOne : ByteArray := prog_10_method_55_code
def yX8_emptyOne : MethodName := ⟨RX8, "emptyOne", "()I"⟩
abbrev cX8_firstEmpty : ByteArray := prog_10_method_56_code
def yX8_firstEmpty : MethodName := ⟨RX8, "firstEmpty", "()I"⟩
abbrev cX8_isRepeating : ByteArray := prog_10_method_57_code
def yX8_isRepeating : MethodName := ⟨RX8, "isRepeating", "()I"⟩
abbrev cX8_repeats : ByteArray := prog_10_method_58_code
def yX8_repeats : MethodName := ⟨RX8, "repeats", "()I"⟩
abbrev cX8_type : ByteArray := prog_10_method_59_code
def yX8_type : MethodName := ⟨RX8, "type", "(I)I"⟩
abbrev cX8_clearText : ByteArray := prog_10_method_60_code
def yX8_clearText : MethodName := ⟨RX8, "clearText", "()I"⟩
abbrev cX8_character : ByteArray := prog_10_method_61_code
def yX8_character : MethodName := ⟨RX8, "character", "(I)I"⟩
abbrev cX8_isNext : ByteArray := prog_10_method_62_code
def yX8_isNext : MethodName := ⟨RX8, "isNext", "(I)Z"⟩
abbrev cX8_readsCard : ByteArray := prog_10_method_63_code
def yX8_readsCard : MethodName := ⟨RX8, "readsCard", "()Z"⟩
abbrev cX8_findError : ByteArray := prog_10_method_64_code
def yX8_findError : MethodName := ⟨RX8, "findError", "()I"⟩
abbrev cX8_syntaxError : ByteArray := prog_10_method_65_code
def yX8_syntaxError : MethodName := ⟨RX8, "syntaxError", "()I"⟩
abbrev cX8_readCards : ByteArray := prog_10_method_66_code
def yX8_readCards : MethodName := ⟨RX8, "readCards", "()I"⟩
abbrev cX8_undo : ByteArray := prog_10_method_67_code
def yX8_undo : MethodName := ⟨RX8, "undo", "()I"⟩
abbrev cX8_digest : ByteArray := prog_10_method_68_code
def yX8_digest : MethodName := ⟨RX8, "digest", "()J"⟩
def RJ9 : String := "java/lang/Math"
def TJ9 : u_T := fun k => match k with
  | _ => ("", "", "", false)
def tyJ9 : Nat → FieldType := fun k => match k with
  | _ => .int
theorem nmJ9 : ∀ a, a < 0 → ∀ b, b < 0 → a ≠ b → (TJ9 a).2.1 ≠ (TJ9 b).2.1 := by decide +kernel
theorem tyJ9_ok : ∀ k, k < 0 → parseFieldDescriptor (TJ9 k).2.2.1 = some (tyJ9 k) := by decide +kernel
abbrev cJ9_floorMod_7cf53 : ByteArray := prog_11_method_50_code
def yJ9_floorMod_7cf53 : MethodName := ⟨RJ9, "floorMod", "(II)I"⟩
abbrev cJ9_abs_0f7a4 : ByteArray := prog_11_method_59_code
def yJ9_abs_0f7a4 : MethodName := ⟨RJ9, "abs", "(I)I"⟩
abbrev cJ9_max_7cf53 : ByteArray := prog_11_method_65_code
def yJ9_max_7cf53 : MethodName := ⟨RJ9, "max", "(II)I"⟩
abbrev cJ9_min_7cf53 : ByteArray := prog_11_method_69_code
def yJ9_min_7cf53 : MethodName := ⟨RJ9, "min", "(II)I"⟩
def RJ10 : String := "java/lang/System"
def TJ10 : u_T := fun k => match k with
  | _ => ("", "", "", false)
def tyJ10 : Nat → FieldType := fun k => match k with
  | _ => .int
theorem nmJ10 : ∀ a, a < 0 → ∀ b, b < 0 → a ≠ b → (TJ10 a).2.1 ≠ (TJ10 b).2.1 := by decide +kernel
theorem tyJ10_ok : ∀ k, k < 0 → parseFieldDescriptor (TJ10 k).2.2.1 = some (tyJ10 k) := by decide +kernel
def RL : String := "DropBoxLoomLaw"
abbrev cL_law : ByteArray := code
abbrev vwCl : List vw_C := [(RX0, TX0, 5), (RX1, TX1, 5), (RX2, TX2, 9), (RX3, TX3, 6), (RX4, TX4, 7), (RX5, TX5, 4), (RX6, TX6, 2), (RX7, TX7, 8), (RX8, TX8, 12)]
end
section
theorem dJ9_floorMod_7cf53_0 : decode cJ9_floorMod_7cf53 0 = .ok (.iload_n 0, 1) := by decide +kernel
theorem dJ9_floorMod_7cf53_1 : decode cJ9_floorMod_7cf53 1 = .ok (.iload_n 1, 1) := by decide +kernel
theorem dJ9_floorMod_7cf53_2 : decode cJ9_floorMod_7cf53 2 = .ok (.irem, 1) := by decide +kernel
theorem dJ9_floorMod_7cf53_3 : decode cJ9_floorMod_7cf53 3 = .ok (.istore_n 2, 1) := by decide +kernel
theorem dJ9_floorMod_7cf53_4 : decode cJ9_floorMod_7cf53 4 = .ok (.iload_n 0, 1) := by decide +kernel
theorem dJ9_floorMod_7cf53_5 : decode cJ9_floorMod_7cf53 5 = .ok (.iload_n 1, 1) := by decide +kernel
theorem dJ9_floorMod_7cf53_6 : decode cJ9_floorMod_7cf53 6 = .ok (.ixor, 1) := by decide +kernel
theorem dJ9_floorMod_7cf53_7 : decode cJ9_floorMod_7cf53 7 = .ok (.ifCond .ge 11, 3) := by decide +kernel
theorem dJ9_floorMod_7cf53_10 : decode cJ9_floorMod_7cf53 10 = .ok (.iload_n 2, 1) := by decide +kernel
theorem dJ9_floorMod_7cf53_11 : decode cJ9_floorMod_7cf53 11 = .ok (.ifCond .eq 7, 3) := by decide +kernel
theorem dJ9_floorMod_7cf53_14 : decode cJ9_floorMod_7cf53 14 = .ok (.iload_n 2, 1) := by decide +kernel
theorem dJ9_floorMod_7cf53_15 : decode cJ9_floorMod_7cf53 15 = .ok (.iload_n 1, 1) := by decide +kernel
theorem dJ9_floorMod_7cf53_16 : decode cJ9_floorMod_7cf53 16 = .ok (.iadd, 1) := by decide +kernel
theorem dJ9_floorMod_7cf53_17 : decode cJ9_floorMod_7cf53 17 = .ok (.ireturn, 1) := by decide +kernel
theorem dJ9_floorMod_7cf53_18 : decode cJ9_floorMod_7cf53 18 = .ok (.iload_n 2, 1) := by decide +kernel
theorem dJ9_floorMod_7cf53_19 : decode cJ9_floorMod_7cf53 19 = .ok (.ireturn, 1) := by decide +kernel
theorem dJ9_abs_0f7a4_0 : decode cJ9_abs_0f7a4 0 = .ok (.iload_n 0, 1) := by decide +kernel
theorem dJ9_abs_0f7a4_1 : decode cJ9_abs_0f7a4 1 = .ok (.ifCond .ge 8, 3) := by decide +kernel
theorem dJ9_abs_0f7a4_4 : decode cJ9_abs_0f7a4 4 = .ok (.iload_n 0, 1) := by decide +kernel
theorem dJ9_abs_0f7a4_5 : decode cJ9_abs_0f7a4 5 = .ok (.ineg, 1) := by decide +kernel
theorem dJ9_abs_0f7a4_6 : decode cJ9_abs_0f7a4 6 = .ok (.goto 4, 3) := by decide +kernel
theorem dJ9_abs_0f7a4_9 : decode cJ9_abs_0f7a4 9 = .ok (.iload_n 0, 1) := by decide +kernel
theorem dJ9_abs_0f7a4_10 : decode cJ9_abs_0f7a4 10 = .ok (.ireturn, 1) := by decide +kernel
theorem dJ9_max_7cf53_0 : decode cJ9_max_7cf53 0 = .ok (.iload_n 0, 1) := by decide +kernel
theorem dJ9_max_7cf53_1 : decode cJ9_max_7cf53 1 = .ok (.iload_n 1, 1) := by decide +kernel
theorem dJ9_max_7cf53_2 : decode cJ9_max_7cf53 2 = .ok (.if_icmp .lt 7, 3) := by decide +kernel
theorem dJ9_max_7cf53_5 : decode cJ9_max_7cf53 5 = .ok (.iload_n 0, 1) := by decide +kernel
theorem dJ9_max_7cf53_6 : decode cJ9_max_7cf53 6 = .ok (.goto 4, 3) := by decide +kernel
theorem dJ9_max_7cf53_9 : decode cJ9_max_7cf53 9 = .ok (.iload_n 1, 1) := by decide +kernel
theorem dJ9_max_7cf53_10 : decode cJ9_max_7cf53 10 = .ok (.ireturn, 1) := by decide +kernel
theorem dJ9_min_7cf53_0 : decode cJ9_min_7cf53 0 = .ok (.iload_n 0, 1) := by decide +kernel
theorem dJ9_min_7cf53_1 : decode cJ9_min_7cf53 1 = .ok (.iload_n 1, 1) := by decide +kernel
theorem dJ9_min_7cf53_2 : decode cJ9_min_7cf53 2 = .ok (.if_icmp .gt 7, 3) := by decide +kernel
theorem dJ9_min_7cf53_5 : decode cJ9_min_7cf53 5 = .ok (.iload_n 0, 1) := by decide +kernel
theorem dJ9_min_7cf53_6 : decode cJ9_min_7cf53 6 = .ok (.goto 4, 3) := by decide +kernel
theorem dJ9_min_7cf53_9 : decode cJ9_min_7cf53 9 = .ok (.iload_n 1, 1) := by decide +kernel
theorem dJ9_min_7cf53_10 : decode cJ9_min_7cf53 10 = .ok (.ireturn, 1) := by decide +kernel
end
section
theorem dL_law_0 : decode cL_law 0 = .ok (.new 7, 3) := by decide +kernel
theorem dL_law_3 : decode cL_law 3 = .ok (.dup, 1) := by decide +kernel
theorem dL_law_4 : decode cL_law 4 = .ok (.invokespecial 9, 3) := by decide +kernel
theorem dL_law_7 : decode cL_law 7 = .ok (.astore_n 1, 1) := by decide +kernel
theorem dL_law_8 : decode cL_law 8 = .ok (.new 10, 3) := by decide +kernel
theorem dL_law_11 : decode cL_law 11 = .ok (.dup, 1) := by decide +kernel
theorem dL_law_12 : decode cL_law 12 = .ok (.invokespecial 12, 3) := by decide +kernel
theorem dL_law_15 : decode cL_law 15 = .ok (.astore_n 2, 1) := by decide +kernel
theorem dL_law_16 : decode cL_law 16 = .ok (.iconst 0, 1) := by decide +kernel
theorem dL_law_17 : decode cL_law 17 = .ok (.istore_n 3, 1) := by decide +kernel
theorem dL_law_18 : decode cL_law 18 = .ok (.iload_n 3, 1) := by decide +kernel
theorem dL_law_19 : decode cL_law 19 = .ok (.aload_n 0, 1) := by decide +kernel
theorem dL_law_20 : decode cL_law 20 = .ok (.arraylength, 1) := by decide +kernel
theorem dL_law_21 : decode cL_law 21 = .ok (.iconst 4, 1) := by decide +kernel
theorem dL_law_22 : decode cL_law 22 = .ok (.isub, 1) := by decide +kernel
theorem dL_law_23 : decode cL_law 23 = .ok (.if_icmp .gt 855, 3) := by decide +kernel
theorem dL_law_26 : decode cL_law 26 = .ok (.aload_n 0, 1) := by decide +kernel
theorem dL_law_27 : decode cL_law 27 = .ok (.iload_n 3, 1) := by decide +kernel
theorem dL_law_28 : decode cL_law 28 = .ok (.iaload, 1) := by decide +kernel
theorem dL_law_29 : decode cL_law 29 = .ok (.bipush 31, 2) := by decide +kernel
theorem dL_law_31 : decode cL_law 31 = .ok (.iand, 1) := by decide +kernel
theorem dL_law_32 : decode cL_law 32 = .ok (.tableswitch 840 0 28 #[132, 175, 198, 241, 274, 307, 340, 363, 406, 429, 452, 475, 488, 511, 544, 577, 610, 643, 676, 699, 712, 725, 738, 751, 774, 787, 800, 813, 826], 132) := by decide +kernel
theorem dL_law_164 : decode cL_law 164 = .ok (.aload_n 1, 1) := by decide +kernel
theorem dL_law_165 : decode cL_law 165 = .ok (.aload_n 0, 1) := by decide +kernel
theorem dL_law_166 : decode cL_law 166 = .ok (.iload_n 3, 1) := by decide +kernel
theorem dL_law_167 : decode cL_law 167 = .ok (.iconst 1, 1) := by decide +kernel
theorem dL_law_168 : decode cL_law 168 = .ok (.iadd, 1) := by decide +kernel
theorem dL_law_169 : decode cL_law 169 = .ok (.iaload, 1) := by decide +kernel
theorem dL_law_170 : decode cL_law 170 = .ok (.aload_n 0, 1) := by decide +kernel
theorem dL_law_171 : decode cL_law 171 = .ok (.iload_n 3, 1) := by decide +kernel
theorem dL_law_172 : decode cL_law 172 = .ok (.iconst 2, 1) := by decide +kernel
theorem dL_law_173 : decode cL_law 173 = .ok (.iadd, 1) := by decide +kernel
theorem dL_law_174 : decode cL_law 174 = .ok (.iaload, 1) := by decide +kernel
theorem dL_law_175 : decode cL_law 175 = .ok (.aload_n 0, 1) := by decide +kernel
theorem dL_law_176 : decode cL_law 176 = .ok (.iload_n 3, 1) := by decide +kernel
theorem dL_law_177 : decode cL_law 177 = .ok (.iconst 3, 1) := by decide +kernel
theorem dL_law_178 : decode cL_law 178 = .ok (.iadd, 1) := by decide +kernel
theorem dL_law_179 : decode cL_law 179 = .ok (.iaload, 1) := by decide +kernel
theorem dL_law_180 : decode cL_law 180 = .ok (.invokevirtual 13, 3) := by decide +kernel
theorem dL_law_183 : decode cL_law 183 = .ok (.aload_n 2, 1) := by decide +kernel
theorem dL_law_184 : decode cL_law 184 = .ok (.aload_n 0, 1) := by decide +kernel
theorem dL_law_185 : decode cL_law 185 = .ok (.iload_n 3, 1) := by decide +kernel
theorem dL_law_186 : decode cL_law 186 = .ok (.iconst 1, 1) := by decide +kernel
theorem dL_law_187 : decode cL_law 187 = .ok (.iadd, 1) := by decide +kernel
theorem dL_law_188 : decode cL_law 188 = .ok (.iaload, 1) := by decide +kernel
theorem dL_law_189 : decode cL_law 189 = .ok (.aload_n 0, 1) := by decide +kernel
theorem dL_law_190 : decode cL_law 190 = .ok (.iload_n 3, 1) := by decide +kernel
theorem dL_law_191 : decode cL_law 191 = .ok (.iconst 2, 1) := by decide +kernel
theorem dL_law_192 : decode cL_law 192 = .ok (.iadd, 1) := by decide +kernel
theorem dL_law_193 : decode cL_law 193 = .ok (.iaload, 1) := by decide +kernel
theorem dL_law_194 : decode cL_law 194 = .ok (.aload_n 0, 1) := by decide +kernel
theorem dL_law_195 : decode cL_law 195 = .ok (.iload_n 3, 1) := by decide +kernel
theorem dL_law_196 : decode cL_law 196 = .ok (.iconst 3, 1) := by decide +kernel
theorem dL_law_197 : decode cL_law 197 = .ok (.iadd, 1) := by decide +kernel
theorem dL_law_198 : decode cL_law 198 = .ok (.iaload, 1) := by decide +kernel
theorem dL_law_199 : decode cL_law 199 = .ok (.invokevirtual 17, 3) := by decide +kernel
theorem dL_law_202 : decode cL_law 202 = .ok (.if_icmp .eq 670, 3) := by decide +kernel
theorem dL_law_205 : decode cL_law 205 = .ok (.iconst 0, 1) := by decide +kernel
theorem dL_law_206 : decode cL_law 206 = .ok (.ireturn, 1) := by decide +kernel
theorem dL_law_207 : decode cL_law 207 = .ok (.aload_n 1, 1) := by decide +kernel
theorem dL_law_208 : decode cL_law 208 = .ok (.aload_n 0, 1) := by decide +kernel
theorem dL_law_209 : decode cL_law 209 = .ok (.iload_n 3, 1) := by decide +kernel
theorem dL_law_210 : decode cL_law 210 = .ok (.iconst 1, 1) := by decide +kernel
theorem dL_law_211 : decode cL_law 211 = .ok (.iadd, 1) := by decide +kernel
theorem dL_law_212 : decode cL_law 212 = .ok (.iaload, 1) := by decide +kernel
theorem dL_law_213 : decode cL_law 213 = .ok (.invokevirtual 18, 3) := by decide +kernel
theorem dL_law_216 : decode cL_law 216 = .ok (.aload_n 2, 1) := by decide +kernel
theorem dL_law_217 : decode cL_law 217 = .ok (.aload_n 0, 1) := by decide +kernel
theorem dL_law_218 : decode cL_law 218 = .ok (.iload_n 3, 1) := by decide +kernel
theorem dL_law_219 : decode cL_law 219 = .ok (.iconst 1, 1) := by decide +kernel
theorem dL_law_220 : decode cL_law 220 = .ok (.iadd, 1) := by decide +kernel
theorem dL_law_221 : decode cL_law 221 = .ok (.iaload, 1) := by decide +kernel
theorem dL_law_222 : decode cL_law 222 = .ok (.invokevirtual 22, 3) := by decide +kernel
theorem dL_law_225 : decode cL_law 225 = .ok (.if_icmp .eq 647, 3) := by decide +kernel
theorem dL_law_228 : decode cL_law 228 = .ok (.iconst 0, 1) := by decide +kernel
theorem dL_law_229 : decode cL_law 229 = .ok (.ireturn, 1) := by decide +kernel
theorem dL_law_230 : decode cL_law 230 = .ok (.aload_n 1, 1) := by decide +kernel
theorem dL_law_231 : decode cL_law 231 = .ok (.aload_n 0, 1) := by decide +kernel
theorem dL_law_232 : decode cL_law 232 = .ok (.iload_n 3, 1) := by decide +kernel
theorem dL_law_233 : decode cL_law 233 = .ok (.iconst 1, 1) := by decide +kernel
theorem dL_law_234 : decode cL_law 234 = .ok (.iadd, 1) := by decide +kernel
theorem dL_law_235 : decode cL_law 235 = .ok (.iaload, 1) := by decide +kernel
theorem dL_law_236 : decode cL_law 236 = .ok (.aload_n 0, 1) := by decide +kernel
theorem dL_law_237 : decode cL_law 237 = .ok (.iload_n 3, 1) := by decide +kernel
theorem dL_law_238 : decode cL_law 238 = .ok (.iconst 2, 1) := by decide +kernel
theorem dL_law_239 : decode cL_law 239 = .ok (.iadd, 1) := by decide +kernel
theorem dL_law_240 : decode cL_law 240 = .ok (.iaload, 1) := by decide +kernel
theorem dL_law_241 : decode cL_law 241 = .ok (.aload_n 0, 1) := by decide +kernel
theorem dL_law_242 : decode cL_law 242 = .ok (.iload_n 3, 1) := by decide +kernel
theorem dL_law_243 : decode cL_law 243 = .ok (.iconst 3, 1) := by decide +kernel
theorem dL_law_244 : decode cL_law 244 = .ok (.iadd, 1) := by decide +kernel
theorem dL_law_245 : decode cL_law 245 = .ok (.iaload, 1) := by decide +kernel
theorem dL_law_246 : decode cL_law 246 = .ok (.invokevirtual 23, 3) := by decide +kernel
theorem dL_law_249 : decode cL_law 249 = .ok (.aload_n 2, 1) := by decide +kernel
theorem dL_law_250 : decode cL_law 250 = .ok (.aload_n 0, 1) := by decide +kernel
theorem dL_law_251 : decode cL_law 251 = .ok (.iload_n 3, 1) := by decide +kernel
theorem dL_law_252 : decode cL_law 252 = .ok (.iconst 1, 1) := by decide +kernel
theorem dL_law_253 : decode cL_law 253 = .ok (.iadd, 1) := by decide +kernel
theorem dL_law_254 : decode cL_law 254 = .ok (.iaload, 1) := by decide +kernel
theorem dL_law_255 : decode cL_law 255 = .ok (.aload_n 0, 1) := by decide +kernel
theorem dL_law_256 : decode cL_law 256 = .ok (.iload_n 3, 1) := by decide +kernel
theorem dL_law_257 : decode cL_law 257 = .ok (.iconst 2, 1) := by decide +kernel
theorem dL_law_258 : decode cL_law 258 = .ok (.iadd, 1) := by decide +kernel
theorem dL_law_259 : decode cL_law 259 = .ok (.iaload, 1) := by decide +kernel
theorem dL_law_260 : decode cL_law 260 = .ok (.aload_n 0, 1) := by decide +kernel
theorem dL_law_261 : decode cL_law 261 = .ok (.iload_n 3, 1) := by decide +kernel
theorem dL_law_262 : decode cL_law 262 = .ok (.iconst 3, 1) := by decide +kernel
theorem dL_law_263 : decode cL_law 263 = .ok (.iadd, 1) := by decide +kernel
theorem dL_law_264 : decode cL_law 264 = .ok (.iaload, 1) := by decide +kernel
theorem dL_law_265 : decode cL_law 265 = .ok (.invokevirtual 26, 3) := by decide +kernel
theorem dL_law_268 : decode cL_law 268 = .ok (.if_icmp .eq 604, 3) := by decide +kernel
theorem dL_law_271 : decode cL_law 271 = .ok (.iconst 0, 1) := by decide +kernel
theorem dL_law_272 : decode cL_law 272 = .ok (.ireturn, 1) := by decide +kernel
theorem dL_law_273 : decode cL_law 273 = .ok (.aload_n 1, 1) := by decide +kernel
theorem dL_law_274 : decode cL_law 274 = .ok (.aload_n 0, 1) := by decide +kernel
theorem dL_law_275 : decode cL_law 275 = .ok (.iload_n 3, 1) := by decide +kernel
theorem dL_law_276 : decode cL_law 276 = .ok (.iconst 1, 1) := by decide +kernel
theorem dL_law_277 : decode cL_law 277 = .ok (.iadd, 1) := by decide +kernel
theorem dL_law_278 : decode cL_law 278 = .ok (.iaload, 1) := by decide +kernel
theorem dL_law_279 : decode cL_law 279 = .ok (.aload_n 0, 1) := by decide +kernel
theorem dL_law_280 : decode cL_law 280 = .ok (.iload_n 3, 1) := by decide +kernel
theorem dL_law_281 : decode cL_law 281 = .ok (.iconst 2, 1) := by decide +kernel
theorem dL_law_282 : decode cL_law 282 = .ok (.iadd, 1) := by decide +kernel
theorem dL_law_283 : decode cL_law 283 = .ok (.iaload, 1) := by decide +kernel
theorem dL_law_284 : decode cL_law 284 = .ok (.invokevirtual 27, 3) := by decide +kernel
theorem dL_law_287 : decode cL_law 287 = .ok (.aload_n 2, 1) := by decide +kernel
theorem dL_law_288 : decode cL_law 288 = .ok (.aload_n 0, 1) := by decide +kernel
theorem dL_law_289 : decode cL_law 289 = .ok (.iload_n 3, 1) := by decide +kernel
theorem dL_law_290 : decode cL_law 290 = .ok (.iconst 1, 1) := by decide +kernel
theorem dL_law_291 : decode cL_law 291 = .ok (.iadd, 1) := by decide +kernel
theorem dL_law_292 : decode cL_law 292 = .ok (.iaload, 1) := by decide +kernel
theorem dL_law_293 : decode cL_law 293 = .ok (.aload_n 0, 1) := by decide +kernel
theorem dL_law_294 : decode cL_law 294 = .ok (.iload_n 3, 1) := by decide +kernel
theorem dL_law_295 : decode cL_law 295 = .ok (.iconst 2, 1) := by decide +kernel
theorem dL_law_296 : decode cL_law 296 = .ok (.iadd, 1) := by decide +kernel
theorem dL_law_297 : decode cL_law 297 = .ok (.iaload, 1) := by decide +kernel
theorem dL_law_298 : decode cL_law 298 = .ok (.invokevirtual 31, 3) := by decide +kernel
theorem dL_law_301 : decode cL_law 301 = .ok (.if_icmp .eq 571, 3) := by decide +kernel
theorem dL_law_304 : decode cL_law 304 = .ok (.iconst 0, 1) := by decide +kernel
theorem dL_law_305 : decode cL_law 305 = .ok (.ireturn, 1) := by decide +kernel
theorem dL_law_306 : decode cL_law 306 = .ok (.aload_n 1, 1) := by decide +kernel
theorem dL_law_307 : decode cL_law 307 = .ok (.aload_n 0, 1) := by decide +kernel
theorem dL_law_308 : decode cL_law 308 = .ok (.iload_n 3, 1) := by decide +kernel
theorem dL_law_309 : decode cL_law 309 = .ok (.iconst 1, 1) := by decide +kernel
theorem dL_law_310 : decode cL_law 310 = .ok (.iadd, 1) := by decide +kernel
theorem dL_law_311 : decode cL_law 311 = .ok (.iaload, 1) := by decide +kernel
theorem dL_law_312 : decode cL_law 312 = .ok (.aload_n 0, 1) := by decide +kernel
theorem dL_law_313 : decode cL_law 313 = .ok (.iload_n 3, 1) := by decide +kernel
theorem dL_law_314 : decode cL_law 314 = .ok (.iconst 2, 1) := by decide +kernel
theorem dL_law_315 : decode cL_law 315 = .ok (.iadd, 1) := by decide +kernel
theorem dL_law_316 : decode cL_law 316 = .ok (.iaload, 1) := by decide +kernel
theorem dL_law_317 : decode cL_law 317 = .ok (.invokevirtual 32, 3) := by decide +kernel
theorem dL_law_320 : decode cL_law 320 = .ok (.aload_n 2, 1) := by decide +kernel
theorem dL_law_321 : decode cL_law 321 = .ok (.aload_n 0, 1) := by decide +kernel
theorem dL_law_322 : decode cL_law 322 = .ok (.iload_n 3, 1) := by decide +kernel
theorem dL_law_323 : decode cL_law 323 = .ok (.iconst 1, 1) := by decide +kernel
theorem dL_law_324 : decode cL_law 324 = .ok (.iadd, 1) := by decide +kernel
theorem dL_law_325 : decode cL_law 325 = .ok (.iaload, 1) := by decide +kernel
theorem dL_law_326 : decode cL_law 326 = .ok (.aload_n 0, 1) := by decide +kernel
theorem dL_law_327 : decode cL_law 327 = .ok (.iload_n 3, 1) := by decide +kernel
theorem dL_law_328 : decode cL_law 328 = .ok (.iconst 2, 1) := by decide +kernel
theorem dL_law_329 : decode cL_law 329 = .ok (.iadd, 1) := by decide +kernel
theorem dL_law_330 : decode cL_law 330 = .ok (.iaload, 1) := by decide +kernel
theorem dL_law_331 : decode cL_law 331 = .ok (.invokevirtual 35, 3) := by decide +kernel
theorem dL_law_334 : decode cL_law 334 = .ok (.if_icmp .eq 538, 3) := by decide +kernel
theorem dL_law_337 : decode cL_law 337 = .ok (.iconst 0, 1) := by decide +kernel
theorem dL_law_338 : decode cL_law 338 = .ok (.ireturn, 1) := by decide +kernel
theorem dL_law_339 : decode cL_law 339 = .ok (.aload_n 1, 1) := by decide +kernel
theorem dL_law_340 : decode cL_law 340 = .ok (.aload_n 0, 1) := by decide +kernel
theorem dL_law_341 : decode cL_law 341 = .ok (.iload_n 3, 1) := by decide +kernel
theorem dL_law_342 : decode cL_law 342 = .ok (.iconst 1, 1) := by decide +kernel
theorem dL_law_343 : decode cL_law 343 = .ok (.iadd, 1) := by decide +kernel
theorem dL_law_344 : decode cL_law 344 = .ok (.iaload, 1) := by decide +kernel
theorem dL_law_345 : decode cL_law 345 = .ok (.aload_n 0, 1) := by decide +kernel
theorem dL_law_346 : decode cL_law 346 = .ok (.iload_n 3, 1) := by decide +kernel
theorem dL_law_347 : decode cL_law 347 = .ok (.iconst 2, 1) := by decide +kernel
theorem dL_law_348 : decode cL_law 348 = .ok (.iadd, 1) := by decide +kernel
theorem dL_law_349 : decode cL_law 349 = .ok (.iaload, 1) := by decide +kernel
theorem dL_law_350 : decode cL_law 350 = .ok (.invokevirtual 36, 3) := by decide +kernel
theorem dL_law_353 : decode cL_law 353 = .ok (.aload_n 2, 1) := by decide +kernel
theorem dL_law_354 : decode cL_law 354 = .ok (.aload_n 0, 1) := by decide +kernel
theorem dL_law_355 : decode cL_law 355 = .ok (.iload_n 3, 1) := by decide +kernel
theorem dL_law_356 : decode cL_law 356 = .ok (.iconst 1, 1) := by decide +kernel
theorem dL_law_357 : decode cL_law 357 = .ok (.iadd, 1) := by decide +kernel
theorem dL_law_358 : decode cL_law 358 = .ok (.iaload, 1) := by decide +kernel
theorem dL_law_359 : decode cL_law 359 = .ok (.aload_n 0, 1) := by decide +kernel
theorem dL_law_360 : decode cL_law 360 = .ok (.iload_n 3, 1) := by decide +kernel
theorem dL_law_361 : decode cL_law 361 = .ok (.iconst 2, 1) := by decide +kernel
theorem dL_law_362 : decode cL_law 362 = .ok (.iadd, 1) := by decide +kernel
theorem dL_law_363 : decode cL_law 363 = .ok (.iaload, 1) := by decide +kernel
theorem dL_law_364 : decode cL_law 364 = .ok (.invokevirtual 39, 3) := by decide +kernel
theorem dL_law_367 : decode cL_law 367 = .ok (.if_icmp .eq 505, 3) := by decide +kernel
theorem dL_law_370 : decode cL_law 370 = .ok (.iconst 0, 1) := by decide +kernel
theorem dL_law_371 : decode cL_law 371 = .ok (.ireturn, 1) := by decide +kernel
theorem dL_law_372 : decode cL_law 372 = .ok (.aload_n 1, 1) := by decide +kernel
theorem dL_law_373 : decode cL_law 373 = .ok (.aload_n 0, 1) := by decide +kernel
theorem dL_law_374 : decode cL_law 374 = .ok (.iload_n 3, 1) := by decide +kernel
theorem dL_law_375 : decode cL_law 375 = .ok (.iconst 1, 1) := by decide +kernel
theorem dL_law_376 : decode cL_law 376 = .ok (.iadd, 1) := by decide +kernel
theorem dL_law_377 : decode cL_law 377 = .ok (.iaload, 1) := by decide +kernel
theorem dL_law_378 : decode cL_law 378 = .ok (.invokevirtual 40, 3) := by decide +kernel
theorem dL_law_381 : decode cL_law 381 = .ok (.aload_n 2, 1) := by decide +kernel
theorem dL_law_382 : decode cL_law 382 = .ok (.aload_n 0, 1) := by decide +kernel
theorem dL_law_383 : decode cL_law 383 = .ok (.iload_n 3, 1) := by decide +kernel
theorem dL_law_384 : decode cL_law 384 = .ok (.iconst 1, 1) := by decide +kernel
theorem dL_law_385 : decode cL_law 385 = .ok (.iadd, 1) := by decide +kernel
theorem dL_law_386 : decode cL_law 386 = .ok (.iaload, 1) := by decide +kernel
theorem dL_law_387 : decode cL_law 387 = .ok (.invokevirtual 43, 3) := by decide +kernel
theorem dL_law_390 : decode cL_law 390 = .ok (.if_icmp .eq 482, 3) := by decide +kernel
theorem dL_law_393 : decode cL_law 393 = .ok (.iconst 0, 1) := by decide +kernel
theorem dL_law_394 : decode cL_law 394 = .ok (.ireturn, 1) := by decide +kernel
theorem dL_law_395 : decode cL_law 395 = .ok (.aload_n 1, 1) := by decide +kernel
theorem dL_law_396 : decode cL_law 396 = .ok (.aload_n 0, 1) := by decide +kernel
theorem dL_law_397 : decode cL_law 397 = .ok (.iload_n 3, 1) := by decide +kernel
theorem dL_law_398 : decode cL_law 398 = .ok (.iconst 1, 1) := by decide +kernel
theorem dL_law_399 : decode cL_law 399 = .ok (.iadd, 1) := by decide +kernel
theorem dL_law_400 : decode cL_law 400 = .ok (.iaload, 1) := by decide +kernel
theorem dL_law_401 : decode cL_law 401 = .ok (.aload_n 0, 1) := by decide +kernel
theorem dL_law_402 : decode cL_law 402 = .ok (.iload_n 3, 1) := by decide +kernel
theorem dL_law_403 : decode cL_law 403 = .ok (.iconst 2, 1) := by decide +kernel
theorem dL_law_404 : decode cL_law 404 = .ok (.iadd, 1) := by decide +kernel
theorem dL_law_405 : decode cL_law 405 = .ok (.iaload, 1) := by decide +kernel
theorem dL_law_406 : decode cL_law 406 = .ok (.aload_n 0, 1) := by decide +kernel
theorem dL_law_407 : decode cL_law 407 = .ok (.iload_n 3, 1) := by decide +kernel
theorem dL_law_408 : decode cL_law 408 = .ok (.iconst 3, 1) := by decide +kernel
theorem dL_law_409 : decode cL_law 409 = .ok (.iadd, 1) := by decide +kernel
theorem dL_law_410 : decode cL_law 410 = .ok (.iaload, 1) := by decide +kernel
theorem dL_law_411 : decode cL_law 411 = .ok (.invokevirtual 44, 3) := by decide +kernel
theorem dL_law_414 : decode cL_law 414 = .ok (.aload_n 2, 1) := by decide +kernel
theorem dL_law_415 : decode cL_law 415 = .ok (.aload_n 0, 1) := by decide +kernel
theorem dL_law_416 : decode cL_law 416 = .ok (.iload_n 3, 1) := by decide +kernel
theorem dL_law_417 : decode cL_law 417 = .ok (.iconst 1, 1) := by decide +kernel
theorem dL_law_418 : decode cL_law 418 = .ok (.iadd, 1) := by decide +kernel
theorem dL_law_419 : decode cL_law 419 = .ok (.iaload, 1) := by decide +kernel
theorem dL_law_420 : decode cL_law 420 = .ok (.aload_n 0, 1) := by decide +kernel
theorem dL_law_421 : decode cL_law 421 = .ok (.iload_n 3, 1) := by decide +kernel
theorem dL_law_422 : decode cL_law 422 = .ok (.iconst 2, 1) := by decide +kernel
theorem dL_law_423 : decode cL_law 423 = .ok (.iadd, 1) := by decide +kernel
theorem dL_law_424 : decode cL_law 424 = .ok (.iaload, 1) := by decide +kernel
theorem dL_law_425 : decode cL_law 425 = .ok (.aload_n 0, 1) := by decide +kernel
theorem dL_law_426 : decode cL_law 426 = .ok (.iload_n 3, 1) := by decide +kernel
theorem dL_law_427 : decode cL_law 427 = .ok (.iconst 3, 1) := by decide +kernel
theorem dL_law_428 : decode cL_law 428 = .ok (.iadd, 1) := by decide +kernel
theorem dL_law_429 : decode cL_law 429 = .ok (.iaload, 1) := by decide +kernel
theorem dL_law_430 : decode cL_law 430 = .ok (.invokevirtual 47, 3) := by decide +kernel
theorem dL_law_433 : decode cL_law 433 = .ok (.if_icmp .eq 439, 3) := by decide +kernel
theorem dL_law_436 : decode cL_law 436 = .ok (.iconst 0, 1) := by decide +kernel
theorem dL_law_437 : decode cL_law 437 = .ok (.ireturn, 1) := by decide +kernel
theorem dL_law_438 : decode cL_law 438 = .ok (.aload_n 1, 1) := by decide +kernel
theorem dL_law_439 : decode cL_law 439 = .ok (.aload_n 0, 1) := by decide +kernel
theorem dL_law_440 : decode cL_law 440 = .ok (.iload_n 3, 1) := by decide +kernel
theorem dL_law_441 : decode cL_law 441 = .ok (.iconst 1, 1) := by decide +kernel
theorem dL_law_442 : decode cL_law 442 = .ok (.iadd, 1) := by decide +kernel
theorem dL_law_443 : decode cL_law 443 = .ok (.iaload, 1) := by decide +kernel
theorem dL_law_444 : decode cL_law 444 = .ok (.invokevirtual 48, 3) := by decide +kernel
theorem dL_law_447 : decode cL_law 447 = .ok (.aload_n 2, 1) := by decide +kernel
theorem dL_law_448 : decode cL_law 448 = .ok (.aload_n 0, 1) := by decide +kernel
theorem dL_law_449 : decode cL_law 449 = .ok (.iload_n 3, 1) := by decide +kernel
theorem dL_law_450 : decode cL_law 450 = .ok (.iconst 1, 1) := by decide +kernel
theorem dL_law_451 : decode cL_law 451 = .ok (.iadd, 1) := by decide +kernel
theorem dL_law_452 : decode cL_law 452 = .ok (.iaload, 1) := by decide +kernel
theorem dL_law_453 : decode cL_law 453 = .ok (.invokevirtual 51, 3) := by decide +kernel
theorem dL_law_456 : decode cL_law 456 = .ok (.if_icmp .eq 416, 3) := by decide +kernel
theorem dL_law_459 : decode cL_law 459 = .ok (.iconst 0, 1) := by decide +kernel
theorem dL_law_460 : decode cL_law 460 = .ok (.ireturn, 1) := by decide +kernel
theorem dL_law_461 : decode cL_law 461 = .ok (.aload_n 1, 1) := by decide +kernel
theorem dL_law_462 : decode cL_law 462 = .ok (.aload_n 0, 1) := by decide +kernel
theorem dL_law_463 : decode cL_law 463 = .ok (.iload_n 3, 1) := by decide +kernel
theorem dL_law_464 : decode cL_law 464 = .ok (.iconst 1, 1) := by decide +kernel
theorem dL_law_465 : decode cL_law 465 = .ok (.iadd, 1) := by decide +kernel
theorem dL_law_466 : decode cL_law 466 = .ok (.iaload, 1) := by decide +kernel
theorem dL_law_467 : decode cL_law 467 = .ok (.invokevirtual 52, 3) := by decide +kernel
theorem dL_law_470 : decode cL_law 470 = .ok (.aload_n 2, 1) := by decide +kernel
theorem dL_law_471 : decode cL_law 471 = .ok (.aload_n 0, 1) := by decide +kernel
theorem dL_law_472 : decode cL_law 472 = .ok (.iload_n 3, 1) := by decide +kernel
theorem dL_law_473 : decode cL_law 473 = .ok (.iconst 1, 1) := by decide +kernel
theorem dL_law_474 : decode cL_law 474 = .ok (.iadd, 1) := by decide +kernel
theorem dL_law_475 : decode cL_law 475 = .ok (.iaload, 1) := by decide +kernel
theorem dL_law_476 : decode cL_law 476 = .ok (.invokevirtual 55, 3) := by decide +kernel
theorem dL_law_479 : decode cL_law 479 = .ok (.if_icmp .eq 393, 3) := by decide +kernel
theorem dL_law_482 : decode cL_law 482 = .ok (.iconst 0, 1) := by decide +kernel
theorem dL_law_483 : decode cL_law 483 = .ok (.ireturn, 1) := by decide +kernel
theorem dL_law_484 : decode cL_law 484 = .ok (.aload_n 1, 1) := by decide +kernel
theorem dL_law_485 : decode cL_law 485 = .ok (.aload_n 0, 1) := by decide +kernel
theorem dL_law_486 : decode cL_law 486 = .ok (.iload_n 3, 1) := by decide +kernel
theorem dL_law_487 : decode cL_law 487 = .ok (.iconst 1, 1) := by decide +kernel
theorem dL_law_488 : decode cL_law 488 = .ok (.iadd, 1) := by decide +kernel
theorem dL_law_489 : decode cL_law 489 = .ok (.iaload, 1) := by decide +kernel
theorem dL_law_490 : decode cL_law 490 = .ok (.invokevirtual 56, 3) := by decide +kernel
theorem dL_law_493 : decode cL_law 493 = .ok (.aload_n 2, 1) := by decide +kernel
theorem dL_law_494 : decode cL_law 494 = .ok (.aload_n 0, 1) := by decide +kernel
theorem dL_law_495 : decode cL_law 495 = .ok (.iload_n 3, 1) := by decide +kernel
theorem dL_law_496 : decode cL_law 496 = .ok (.iconst 1, 1) := by decide +kernel
theorem dL_law_497 : decode cL_law 497 = .ok (.iadd, 1) := by decide +kernel
theorem dL_law_498 : decode cL_law 498 = .ok (.iaload, 1) := by decide +kernel
theorem dL_law_499 : decode cL_law 499 = .ok (.invokevirtual 59, 3) := by decide +kernel
theorem dL_law_502 : decode cL_law 502 = .ok (.if_icmp .eq 370, 3) := by decide +kernel
theorem dL_law_505 : decode cL_law 505 = .ok (.iconst 0, 1) := by decide +kernel
theorem dL_law_506 : decode cL_law 506 = .ok (.ireturn, 1) := by decide +kernel
theorem dL_law_507 : decode cL_law 507 = .ok (.aload_n 1, 1) := by decide +kernel
theorem dL_law_508 : decode cL_law 508 = .ok (.invokevirtual 60, 3) := by decide +kernel
theorem dL_law_511 : decode cL_law 511 = .ok (.aload_n 2, 1) := by decide +kernel
theorem dL_law_512 : decode cL_law 512 = .ok (.invokevirtual 64, 3) := by decide +kernel
theorem dL_law_515 : decode cL_law 515 = .ok (.if_icmp .eq 357, 3) := by decide +kernel
theorem dL_law_518 : decode cL_law 518 = .ok (.iconst 0, 1) := by decide +kernel
theorem dL_law_519 : decode cL_law 519 = .ok (.ireturn, 1) := by decide +kernel
theorem dL_law_520 : decode cL_law 520 = .ok (.aload_n 1, 1) := by decide +kernel
theorem dL_law_521 : decode cL_law 521 = .ok (.aload_n 0, 1) := by decide +kernel
theorem dL_law_522 : decode cL_law 522 = .ok (.iload_n 3, 1) := by decide +kernel
theorem dL_law_523 : decode cL_law 523 = .ok (.iconst 1, 1) := by decide +kernel
theorem dL_law_524 : decode cL_law 524 = .ok (.iadd, 1) := by decide +kernel
theorem dL_law_525 : decode cL_law 525 = .ok (.iaload, 1) := by decide +kernel
theorem dL_law_526 : decode cL_law 526 = .ok (.invokevirtual 65, 3) := by decide +kernel
theorem dL_law_529 : decode cL_law 529 = .ok (.aload_n 2, 1) := by decide +kernel
theorem dL_law_530 : decode cL_law 530 = .ok (.aload_n 0, 1) := by decide +kernel
theorem dL_law_531 : decode cL_law 531 = .ok (.iload_n 3, 1) := by decide +kernel
theorem dL_law_532 : decode cL_law 532 = .ok (.iconst 1, 1) := by decide +kernel
theorem dL_law_533 : decode cL_law 533 = .ok (.iadd, 1) := by decide +kernel
theorem dL_law_534 : decode cL_law 534 = .ok (.iaload, 1) := by decide +kernel
theorem dL_law_535 : decode cL_law 535 = .ok (.invokevirtual 68, 3) := by decide +kernel
theorem dL_law_538 : decode cL_law 538 = .ok (.if_icmp .eq 334, 3) := by decide +kernel
theorem dL_law_541 : decode cL_law 541 = .ok (.iconst 0, 1) := by decide +kernel
theorem dL_law_542 : decode cL_law 542 = .ok (.ireturn, 1) := by decide +kernel
theorem dL_law_543 : decode cL_law 543 = .ok (.aload_n 1, 1) := by decide +kernel
theorem dL_law_544 : decode cL_law 544 = .ok (.aload_n 0, 1) := by decide +kernel
theorem dL_law_545 : decode cL_law 545 = .ok (.iload_n 3, 1) := by decide +kernel
theorem dL_law_546 : decode cL_law 546 = .ok (.iconst 1, 1) := by decide +kernel
theorem dL_law_547 : decode cL_law 547 = .ok (.iadd, 1) := by decide +kernel
theorem dL_law_548 : decode cL_law 548 = .ok (.iaload, 1) := by decide +kernel
theorem dL_law_549 : decode cL_law 549 = .ok (.aload_n 0, 1) := by decide +kernel
theorem dL_law_550 : decode cL_law 550 = .ok (.iload_n 3, 1) := by decide +kernel
theorem dL_law_551 : decode cL_law 551 = .ok (.iconst 2, 1) := by decide +kernel
theorem dL_law_552 : decode cL_law 552 = .ok (.iadd, 1) := by decide +kernel
theorem dL_law_553 : decode cL_law 553 = .ok (.iaload, 1) := by decide +kernel
theorem dL_law_554 : decode cL_law 554 = .ok (.invokevirtual 69, 3) := by decide +kernel
theorem dL_law_557 : decode cL_law 557 = .ok (.aload_n 2, 1) := by decide +kernel
theorem dL_law_558 : decode cL_law 558 = .ok (.aload_n 0, 1) := by decide +kernel
theorem dL_law_559 : decode cL_law 559 = .ok (.iload_n 3, 1) := by decide +kernel
theorem dL_law_560 : decode cL_law 560 = .ok (.iconst 1, 1) := by decide +kernel
theorem dL_law_561 : decode cL_law 561 = .ok (.iadd, 1) := by decide +kernel
theorem dL_law_562 : decode cL_law 562 = .ok (.iaload, 1) := by decide +kernel
theorem dL_law_563 : decode cL_law 563 = .ok (.aload_n 0, 1) := by decide +kernel
theorem dL_law_564 : decode cL_law 564 = .ok (.iload_n 3, 1) := by decide +kernel
theorem dL_law_565 : decode cL_law 565 = .ok (.iconst 2, 1) := by decide +kernel
theorem dL_law_566 : decode cL_law 566 = .ok (.iadd, 1) := by decide +kernel
theorem dL_law_567 : decode cL_law 567 = .ok (.iaload, 1) := by decide +kernel
theorem dL_law_568 : decode cL_law 568 = .ok (.invokevirtual 72, 3) := by decide +kernel
theorem dL_law_571 : decode cL_law 571 = .ok (.if_icmp .eq 301, 3) := by decide +kernel
theorem dL_law_574 : decode cL_law 574 = .ok (.iconst 0, 1) := by decide +kernel
theorem dL_law_575 : decode cL_law 575 = .ok (.ireturn, 1) := by decide +kernel
theorem dL_law_576 : decode cL_law 576 = .ok (.aload_n 1, 1) := by decide +kernel
theorem dL_law_577 : decode cL_law 577 = .ok (.aload_n 0, 1) := by decide +kernel
theorem dL_law_578 : decode cL_law 578 = .ok (.iload_n 3, 1) := by decide +kernel
theorem dL_law_579 : decode cL_law 579 = .ok (.iconst 1, 1) := by decide +kernel
theorem dL_law_580 : decode cL_law 580 = .ok (.iadd, 1) := by decide +kernel
theorem dL_law_581 : decode cL_law 581 = .ok (.iaload, 1) := by decide +kernel
theorem dL_law_582 : decode cL_law 582 = .ok (.aload_n 0, 1) := by decide +kernel
theorem dL_law_583 : decode cL_law 583 = .ok (.iload_n 3, 1) := by decide +kernel
theorem dL_law_584 : decode cL_law 584 = .ok (.iconst 2, 1) := by decide +kernel
theorem dL_law_585 : decode cL_law 585 = .ok (.iadd, 1) := by decide +kernel
theorem dL_law_586 : decode cL_law 586 = .ok (.iaload, 1) := by decide +kernel
theorem dL_law_587 : decode cL_law 587 = .ok (.invokevirtual 73, 3) := by decide +kernel
theorem dL_law_590 : decode cL_law 590 = .ok (.aload_n 2, 1) := by decide +kernel
theorem dL_law_591 : decode cL_law 591 = .ok (.aload_n 0, 1) := by decide +kernel
theorem dL_law_592 : decode cL_law 592 = .ok (.iload_n 3, 1) := by decide +kernel
theorem dL_law_593 : decode cL_law 593 = .ok (.iconst 1, 1) := by decide +kernel
theorem dL_law_594 : decode cL_law 594 = .ok (.iadd, 1) := by decide +kernel
theorem dL_law_595 : decode cL_law 595 = .ok (.iaload, 1) := by decide +kernel
theorem dL_law_596 : decode cL_law 596 = .ok (.aload_n 0, 1) := by decide +kernel
theorem dL_law_597 : decode cL_law 597 = .ok (.iload_n 3, 1) := by decide +kernel
theorem dL_law_598 : decode cL_law 598 = .ok (.iconst 2, 1) := by decide +kernel
theorem dL_law_599 : decode cL_law 599 = .ok (.iadd, 1) := by decide +kernel
theorem dL_law_600 : decode cL_law 600 = .ok (.iaload, 1) := by decide +kernel
theorem dL_law_601 : decode cL_law 601 = .ok (.invokevirtual 76, 3) := by decide +kernel
theorem dL_law_604 : decode cL_law 604 = .ok (.if_icmp .eq 268, 3) := by decide +kernel
theorem dL_law_607 : decode cL_law 607 = .ok (.iconst 0, 1) := by decide +kernel
theorem dL_law_608 : decode cL_law 608 = .ok (.ireturn, 1) := by decide +kernel
theorem dL_law_609 : decode cL_law 609 = .ok (.aload_n 1, 1) := by decide +kernel
theorem dL_law_610 : decode cL_law 610 = .ok (.aload_n 0, 1) := by decide +kernel
theorem dL_law_611 : decode cL_law 611 = .ok (.iload_n 3, 1) := by decide +kernel
theorem dL_law_612 : decode cL_law 612 = .ok (.iconst 1, 1) := by decide +kernel
theorem dL_law_613 : decode cL_law 613 = .ok (.iadd, 1) := by decide +kernel
theorem dL_law_614 : decode cL_law 614 = .ok (.iaload, 1) := by decide +kernel
theorem dL_law_615 : decode cL_law 615 = .ok (.aload_n 0, 1) := by decide +kernel
theorem dL_law_616 : decode cL_law 616 = .ok (.iload_n 3, 1) := by decide +kernel
theorem dL_law_617 : decode cL_law 617 = .ok (.iconst 2, 1) := by decide +kernel
theorem dL_law_618 : decode cL_law 618 = .ok (.iadd, 1) := by decide +kernel
theorem dL_law_619 : decode cL_law 619 = .ok (.iaload, 1) := by decide +kernel
theorem dL_law_620 : decode cL_law 620 = .ok (.invokevirtual 77, 3) := by decide +kernel
theorem dL_law_623 : decode cL_law 623 = .ok (.aload_n 2, 1) := by decide +kernel
theorem dL_law_624 : decode cL_law 624 = .ok (.aload_n 0, 1) := by decide +kernel
theorem dL_law_625 : decode cL_law 625 = .ok (.iload_n 3, 1) := by decide +kernel
theorem dL_law_626 : decode cL_law 626 = .ok (.iconst 1, 1) := by decide +kernel
theorem dL_law_627 : decode cL_law 627 = .ok (.iadd, 1) := by decide +kernel
theorem dL_law_628 : decode cL_law 628 = .ok (.iaload, 1) := by decide +kernel
theorem dL_law_629 : decode cL_law 629 = .ok (.aload_n 0, 1) := by decide +kernel
theorem dL_law_630 : decode cL_law 630 = .ok (.iload_n 3, 1) := by decide +kernel
theorem dL_law_631 : decode cL_law 631 = .ok (.iconst 2, 1) := by decide +kernel
theorem dL_law_632 : decode cL_law 632 = .ok (.iadd, 1) := by decide +kernel
theorem dL_law_633 : decode cL_law 633 = .ok (.iaload, 1) := by decide +kernel
theorem dL_law_634 : decode cL_law 634 = .ok (.invokevirtual 80, 3) := by decide +kernel
theorem dL_law_637 : decode cL_law 637 = .ok (.if_icmp .eq 235, 3) := by decide +kernel
theorem dL_law_640 : decode cL_law 640 = .ok (.iconst 0, 1) := by decide +kernel
theorem dL_law_641 : decode cL_law 641 = .ok (.ireturn, 1) := by decide +kernel
theorem dL_law_642 : decode cL_law 642 = .ok (.aload_n 1, 1) := by decide +kernel
theorem dL_law_643 : decode cL_law 643 = .ok (.aload_n 0, 1) := by decide +kernel
theorem dL_law_644 : decode cL_law 644 = .ok (.iload_n 3, 1) := by decide +kernel
theorem dL_law_645 : decode cL_law 645 = .ok (.iconst 1, 1) := by decide +kernel
theorem dL_law_646 : decode cL_law 646 = .ok (.iadd, 1) := by decide +kernel
theorem dL_law_647 : decode cL_law 647 = .ok (.iaload, 1) := by decide +kernel
theorem dL_law_648 : decode cL_law 648 = .ok (.aload_n 0, 1) := by decide +kernel
theorem dL_law_649 : decode cL_law 649 = .ok (.iload_n 3, 1) := by decide +kernel
theorem dL_law_650 : decode cL_law 650 = .ok (.iconst 2, 1) := by decide +kernel
theorem dL_law_651 : decode cL_law 651 = .ok (.iadd, 1) := by decide +kernel
theorem dL_law_652 : decode cL_law 652 = .ok (.iaload, 1) := by decide +kernel
theorem dL_law_653 : decode cL_law 653 = .ok (.invokevirtual 81, 3) := by decide +kernel
theorem dL_law_656 : decode cL_law 656 = .ok (.aload_n 2, 1) := by decide +kernel
theorem dL_law_657 : decode cL_law 657 = .ok (.aload_n 0, 1) := by decide +kernel
theorem dL_law_658 : decode cL_law 658 = .ok (.iload_n 3, 1) := by decide +kernel
theorem dL_law_659 : decode cL_law 659 = .ok (.iconst 1, 1) := by decide +kernel
theorem dL_law_660 : decode cL_law 660 = .ok (.iadd, 1) := by decide +kernel
theorem dL_law_661 : decode cL_law 661 = .ok (.iaload, 1) := by decide +kernel
theorem dL_law_662 : decode cL_law 662 = .ok (.aload_n 0, 1) := by decide +kernel
theorem dL_law_663 : decode cL_law 663 = .ok (.iload_n 3, 1) := by decide +kernel
theorem dL_law_664 : decode cL_law 664 = .ok (.iconst 2, 1) := by decide +kernel
theorem dL_law_665 : decode cL_law 665 = .ok (.iadd, 1) := by decide +kernel
theorem dL_law_666 : decode cL_law 666 = .ok (.iaload, 1) := by decide +kernel
theorem dL_law_667 : decode cL_law 667 = .ok (.invokevirtual 84, 3) := by decide +kernel
theorem dL_law_670 : decode cL_law 670 = .ok (.if_icmp .eq 202, 3) := by decide +kernel
theorem dL_law_673 : decode cL_law 673 = .ok (.iconst 0, 1) := by decide +kernel
theorem dL_law_674 : decode cL_law 674 = .ok (.ireturn, 1) := by decide +kernel
theorem dL_law_675 : decode cL_law 675 = .ok (.aload_n 1, 1) := by decide +kernel
theorem dL_law_676 : decode cL_law 676 = .ok (.aload_n 0, 1) := by decide +kernel
theorem dL_law_677 : decode cL_law 677 = .ok (.iload_n 3, 1) := by decide +kernel
theorem dL_law_678 : decode cL_law 678 = .ok (.iconst 1, 1) := by decide +kernel
theorem dL_law_679 : decode cL_law 679 = .ok (.iadd, 1) := by decide +kernel
theorem dL_law_680 : decode cL_law 680 = .ok (.iaload, 1) := by decide +kernel
theorem dL_law_681 : decode cL_law 681 = .ok (.aload_n 0, 1) := by decide +kernel
theorem dL_law_682 : decode cL_law 682 = .ok (.iload_n 3, 1) := by decide +kernel
theorem dL_law_683 : decode cL_law 683 = .ok (.iconst 2, 1) := by decide +kernel
theorem dL_law_684 : decode cL_law 684 = .ok (.iadd, 1) := by decide +kernel
theorem dL_law_685 : decode cL_law 685 = .ok (.iaload, 1) := by decide +kernel
theorem dL_law_686 : decode cL_law 686 = .ok (.invokevirtual 85, 3) := by decide +kernel
theorem dL_law_689 : decode cL_law 689 = .ok (.aload_n 2, 1) := by decide +kernel
theorem dL_law_690 : decode cL_law 690 = .ok (.aload_n 0, 1) := by decide +kernel
theorem dL_law_691 : decode cL_law 691 = .ok (.iload_n 3, 1) := by decide +kernel
theorem dL_law_692 : decode cL_law 692 = .ok (.iconst 1, 1) := by decide +kernel
theorem dL_law_693 : decode cL_law 693 = .ok (.iadd, 1) := by decide +kernel
theorem dL_law_694 : decode cL_law 694 = .ok (.iaload, 1) := by decide +kernel
theorem dL_law_695 : decode cL_law 695 = .ok (.aload_n 0, 1) := by decide +kernel
theorem dL_law_696 : decode cL_law 696 = .ok (.iload_n 3, 1) := by decide +kernel
theorem dL_law_697 : decode cL_law 697 = .ok (.iconst 2, 1) := by decide +kernel
theorem dL_law_698 : decode cL_law 698 = .ok (.iadd, 1) := by decide +kernel
theorem dL_law_699 : decode cL_law 699 = .ok (.iaload, 1) := by decide +kernel
theorem dL_law_700 : decode cL_law 700 = .ok (.invokevirtual 88, 3) := by decide +kernel
theorem dL_law_703 : decode cL_law 703 = .ok (.if_icmp .eq 169, 3) := by decide +kernel
theorem dL_law_706 : decode cL_law 706 = .ok (.iconst 0, 1) := by decide +kernel
theorem dL_law_707 : decode cL_law 707 = .ok (.ireturn, 1) := by decide +kernel
theorem dL_law_708 : decode cL_law 708 = .ok (.aload_n 1, 1) := by decide +kernel
theorem dL_law_709 : decode cL_law 709 = .ok (.aload_n 0, 1) := by decide +kernel
theorem dL_law_710 : decode cL_law 710 = .ok (.iload_n 3, 1) := by decide +kernel
theorem dL_law_711 : decode cL_law 711 = .ok (.iconst 1, 1) := by decide +kernel
theorem dL_law_712 : decode cL_law 712 = .ok (.iadd, 1) := by decide +kernel
theorem dL_law_713 : decode cL_law 713 = .ok (.iaload, 1) := by decide +kernel
theorem dL_law_714 : decode cL_law 714 = .ok (.invokevirtual 89, 3) := by decide +kernel
theorem dL_law_717 : decode cL_law 717 = .ok (.aload_n 2, 1) := by decide +kernel
theorem dL_law_718 : decode cL_law 718 = .ok (.aload_n 0, 1) := by decide +kernel
theorem dL_law_719 : decode cL_law 719 = .ok (.iload_n 3, 1) := by decide +kernel
theorem dL_law_720 : decode cL_law 720 = .ok (.iconst 1, 1) := by decide +kernel
theorem dL_law_721 : decode cL_law 721 = .ok (.iadd, 1) := by decide +kernel
theorem dL_law_722 : decode cL_law 722 = .ok (.iaload, 1) := by decide +kernel
theorem dL_law_723 : decode cL_law 723 = .ok (.invokevirtual 92, 3) := by decide +kernel
theorem dL_law_726 : decode cL_law 726 = .ok (.if_icmp .eq 146, 3) := by decide +kernel
theorem dL_law_729 : decode cL_law 729 = .ok (.iconst 0, 1) := by decide +kernel
theorem dL_law_730 : decode cL_law 730 = .ok (.ireturn, 1) := by decide +kernel
theorem dL_law_731 : decode cL_law 731 = .ok (.aload_n 1, 1) := by decide +kernel
theorem dL_law_732 : decode cL_law 732 = .ok (.invokevirtual 93, 3) := by decide +kernel
theorem dL_law_735 : decode cL_law 735 = .ok (.aload_n 2, 1) := by decide +kernel
theorem dL_law_736 : decode cL_law 736 = .ok (.invokevirtual 96, 3) := by decide +kernel
theorem dL_law_739 : decode cL_law 739 = .ok (.if_icmp .eq 133, 3) := by decide +kernel
theorem dL_law_742 : decode cL_law 742 = .ok (.iconst 0, 1) := by decide +kernel
theorem dL_law_743 : decode cL_law 743 = .ok (.ireturn, 1) := by decide +kernel
theorem dL_law_744 : decode cL_law 744 = .ok (.aload_n 1, 1) := by decide +kernel
theorem dL_law_745 : decode cL_law 745 = .ok (.invokevirtual 97, 3) := by decide +kernel
theorem dL_law_748 : decode cL_law 748 = .ok (.aload_n 2, 1) := by decide +kernel
theorem dL_law_749 : decode cL_law 749 = .ok (.invokevirtual 100, 3) := by decide +kernel
theorem dL_law_752 : decode cL_law 752 = .ok (.if_icmp .eq 120, 3) := by decide +kernel
theorem dL_law_755 : decode cL_law 755 = .ok (.iconst 0, 1) := by decide +kernel
theorem dL_law_756 : decode cL_law 756 = .ok (.ireturn, 1) := by decide +kernel
theorem dL_law_757 : decode cL_law 757 = .ok (.aload_n 1, 1) := by decide +kernel
theorem dL_law_758 : decode cL_law 758 = .ok (.invokevirtual 101, 3) := by decide +kernel
theorem dL_law_761 : decode cL_law 761 = .ok (.aload_n 2, 1) := by decide +kernel
theorem dL_law_762 : decode cL_law 762 = .ok (.invokevirtual 104, 3) := by decide +kernel
theorem dL_law_765 : decode cL_law 765 = .ok (.if_icmp .eq 107, 3) := by decide +kernel
theorem dL_law_768 : decode cL_law 768 = .ok (.iconst 0, 1) := by decide +kernel
theorem dL_law_769 : decode cL_law 769 = .ok (.ireturn, 1) := by decide +kernel
theorem dL_law_770 : decode cL_law 770 = .ok (.aload_n 1, 1) := by decide +kernel
theorem dL_law_771 : decode cL_law 771 = .ok (.invokevirtual 105, 3) := by decide +kernel
theorem dL_law_774 : decode cL_law 774 = .ok (.aload_n 2, 1) := by decide +kernel
theorem dL_law_775 : decode cL_law 775 = .ok (.invokevirtual 108, 3) := by decide +kernel
theorem dL_law_778 : decode cL_law 778 = .ok (.if_icmp .eq 94, 3) := by decide +kernel
theorem dL_law_781 : decode cL_law 781 = .ok (.iconst 0, 1) := by decide +kernel
theorem dL_law_782 : decode cL_law 782 = .ok (.ireturn, 1) := by decide +kernel
theorem dL_law_783 : decode cL_law 783 = .ok (.aload_n 1, 1) := by decide +kernel
theorem dL_law_784 : decode cL_law 784 = .ok (.aload_n 0, 1) := by decide +kernel
theorem dL_law_785 : decode cL_law 785 = .ok (.iload_n 3, 1) := by decide +kernel
theorem dL_law_786 : decode cL_law 786 = .ok (.iconst 1, 1) := by decide +kernel
theorem dL_law_787 : decode cL_law 787 = .ok (.iadd, 1) := by decide +kernel
theorem dL_law_788 : decode cL_law 788 = .ok (.iaload, 1) := by decide +kernel
theorem dL_law_789 : decode cL_law 789 = .ok (.invokevirtual 109, 3) := by decide +kernel
theorem dL_law_792 : decode cL_law 792 = .ok (.aload_n 2, 1) := by decide +kernel
theorem dL_law_793 : decode cL_law 793 = .ok (.aload_n 0, 1) := by decide +kernel
theorem dL_law_794 : decode cL_law 794 = .ok (.iload_n 3, 1) := by decide +kernel
theorem dL_law_795 : decode cL_law 795 = .ok (.iconst 1, 1) := by decide +kernel
theorem dL_law_796 : decode cL_law 796 = .ok (.iadd, 1) := by decide +kernel
theorem dL_law_797 : decode cL_law 797 = .ok (.iaload, 1) := by decide +kernel
theorem dL_law_798 : decode cL_law 798 = .ok (.invokevirtual 112, 3) := by decide +kernel
theorem dL_law_801 : decode cL_law 801 = .ok (.if_icmp .eq 71, 3) := by decide +kernel
theorem dL_law_804 : decode cL_law 804 = .ok (.iconst 0, 1) := by decide +kernel
theorem dL_law_805 : decode cL_law 805 = .ok (.ireturn, 1) := by decide +kernel
theorem dL_law_806 : decode cL_law 806 = .ok (.aload_n 1, 1) := by decide +kernel
theorem dL_law_807 : decode cL_law 807 = .ok (.invokevirtual 113, 3) := by decide +kernel
theorem dL_law_810 : decode cL_law 810 = .ok (.aload_n 2, 1) := by decide +kernel
theorem dL_law_811 : decode cL_law 811 = .ok (.invokevirtual 116, 3) := by decide +kernel
theorem dL_law_814 : decode cL_law 814 = .ok (.if_icmp .eq 58, 3) := by decide +kernel
theorem dL_law_817 : decode cL_law 817 = .ok (.iconst 0, 1) := by decide +kernel
theorem dL_law_818 : decode cL_law 818 = .ok (.ireturn, 1) := by decide +kernel
theorem dL_law_819 : decode cL_law 819 = .ok (.aload_n 1, 1) := by decide +kernel
theorem dL_law_820 : decode cL_law 820 = .ok (.invokevirtual 117, 3) := by decide +kernel
theorem dL_law_823 : decode cL_law 823 = .ok (.aload_n 2, 1) := by decide +kernel
theorem dL_law_824 : decode cL_law 824 = .ok (.invokevirtual 120, 3) := by decide +kernel
theorem dL_law_827 : decode cL_law 827 = .ok (.if_icmp .eq 45, 3) := by decide +kernel
theorem dL_law_830 : decode cL_law 830 = .ok (.iconst 0, 1) := by decide +kernel
theorem dL_law_831 : decode cL_law 831 = .ok (.ireturn, 1) := by decide +kernel
theorem dL_law_832 : decode cL_law 832 = .ok (.aload_n 1, 1) := by decide +kernel
theorem dL_law_833 : decode cL_law 833 = .ok (.invokevirtual 121, 3) := by decide +kernel
theorem dL_law_836 : decode cL_law 836 = .ok (.aload_n 2, 1) := by decide +kernel
theorem dL_law_837 : decode cL_law 837 = .ok (.invokevirtual 124, 3) := by decide +kernel
theorem dL_law_840 : decode cL_law 840 = .ok (.if_icmp .eq 32, 3) := by decide +kernel
theorem dL_law_843 : decode cL_law 843 = .ok (.iconst 0, 1) := by decide +kernel
theorem dL_law_844 : decode cL_law 844 = .ok (.ireturn, 1) := by decide +kernel
theorem dL_law_845 : decode cL_law 845 = .ok (.aload_n 1, 1) := by decide +kernel
theorem dL_law_846 : decode cL_law 846 = .ok (.invokevirtual 125, 3) := by decide +kernel
theorem dL_law_849 : decode cL_law 849 = .ok (.aload_n 2, 1) := by decide +kernel
theorem dL_law_850 : decode cL_law 850 = .ok (.invokevirtual 128, 3) := by decide +kernel
theorem dL_law_853 : decode cL_law 853 = .ok (.if_icmp .eq 19, 3) := by decide +kernel
theorem dL_law_856 : decode cL_law 856 = .ok (.iconst 0, 1) := by decide +kernel
theorem dL_law_857 : decode cL_law 857 = .ok (.ireturn, 1) := by decide +kernel
theorem dL_law_858 : decode cL_law 858 = .ok (.aload_n 1, 1) := by decide +kernel
theorem dL_law_859 : decode cL_law 859 = .ok (.invokevirtual 129, 3) := by decide +kernel
theorem dL_law_862 : decode cL_law 862 = .ok (.aload_n 2, 1) := by decide +kernel
theorem dL_law_863 : decode cL_law 863 = .ok (.invokevirtual 133, 3) := by decide +kernel
theorem dL_law_866 : decode cL_law 866 = .ok (.lcmp, 1) := by decide +kernel
theorem dL_law_867 : decode cL_law 867 = .ok (.ifCond .eq 5, 3) := by decide +kernel
theorem dL_law_870 : decode cL_law 870 = .ok (.iconst 0, 1) := by decide +kernel
theorem dL_law_871 : decode cL_law 871 = .ok (.ireturn, 1) := by decide +kernel
theorem dL_law_872 : decode cL_law 872 = .ok (.iinc 3 4, 3) := by decide +kernel
theorem dL_law_875 : decode cL_law 875 = .ok (.goto (-857), 3) := by decide +kernel
theorem dL_law_878 : decode cL_law 878 = .ok (.iconst 1, 1) := by decide +kernel
theorem dL_law_879 : decode cL_law 879 = .ok (.ireturn, 1) := by decide +kernel
end
section
theorem dX0_init_0 : decode cX0_init 0 = .ok (.aload_n 0, 1) := by decide +kernel
theorem dX0_init_1 : decode cX0_init 1 = .ok (.invokespecial 3, 3) := by decide +kernel
theorem dX0_init_4 : decode cX0_init 4 = .ok (.aload_n 0, 1) := by decide +kernel
theorem dX0_init_5 : decode cX0_init 5 = .ok (.iconst 0, 1) := by decide +kernel
theorem dX0_init_6 : decode cX0_init 6 = .ok (.putfield 9, 3) := by decide +kernel
theorem dX0_init_9 : decode cX0_init 9 = .ok (.aload_n 0, 1) := by decide +kernel
theorem dX0_init_10 : decode cX0_init 10 = .ok (.iconst 0, 1) := by decide +kernel
theorem dX0_init_11 : decode cX0_init 11 = .ok (.putfield 15, 3) := by decide +kernel
theorem dX0_init_14 : decode cX0_init 14 = .ok (.aload_n 0, 1) := by decide +kernel
theorem dX0_init_15 : decode cX0_init 15 = .ok (.iconst 0, 1) := by decide +kernel
theorem dX0_init_16 : decode cX0_init 16 = .ok (.putfield 18, 3) := by decide +kernel
theorem dX0_init_19 : decode cX0_init 19 = .ok (.aload_n 0, 1) := by decide +kernel
theorem dX0_init_20 : decode cX0_init 20 = .ok (.iconst 0, 1) := by decide +kernel
theorem dX0_init_21 : decode cX0_init 21 = .ok (.putfield 21, 3) := by decide +kernel
theorem dX0_init_24 : decode cX0_init 24 = .ok (.aload_n 0, 1) := by decide +kernel
theorem dX0_init_25 : decode cX0_init 25 = .ok (.iconst 0, 1) := by decide +kernel
theorem dX0_init_26 : decode cX0_init 26 = .ok (.putfield 24, 3) := by decide +kernel
theorem dX0_init_29 : decode cX0_init 29 = .ok (.return_, 1) := by decide +kernel
theorem dX0_start_0 : decode cX0_start 0 = .ok (.aload_n 0, 1) := by decide +kernel
theorem dX0_start_1 : decode cX0_start 1 = .ok (.iconst 0, 1) := by decide +kernel
theorem dX0_start_2 : decode cX0_start 2 = .ok (.putfield 21, 3) := by decide +kernel
theorem dX0_start_5 : decode cX0_start 5 = .ok (.aload_n 0, 1) := by decide +kernel
theorem dX0_start_6 : decode cX0_start 6 = .ok (.iconst 0, 1) := by decide +kernel
theorem dX0_start_7 : decode cX0_start 7 = .ok (.putfield 9, 3) := by decide +kernel
theorem dX0_start_10 : decode cX0_start 10 = .ok (.aload_n 0, 1) := by decide +kernel
theorem dX0_start_11 : decode cX0_start 11 = .ok (.iconst 0, 1) := by decide +kernel
theorem dX0_start_12 : decode cX0_start 12 = .ok (.putfield 24, 3) := by decide +kernel
theorem dX0_start_15 : decode cX0_start 15 = .ok (.return_, 1) := by decide +kernel
theorem dX0_isBehindCard_0 : decode cX0_isBehindCard 0 = .ok (.aload_n 0, 1) := by decide +kernel
theorem dX0_isBehindCard_1 : decode cX0_isBehindCard 1 = .ok (.getfield 21, 3) := by decide +kernel
theorem dX0_isBehindCard_4 : decode cX0_isBehindCard 4 = .ok (.iconst 4, 1) := by decide +kernel
theorem dX0_isBehindCard_5 : decode cX0_isBehindCard 5 = .ok (.if_icmp .ne 7, 3) := by decide +kernel
theorem dX0_isBehindCard_8 : decode cX0_isBehindCard 8 = .ok (.iconst 1, 1) := by decide +kernel
theorem dX0_isBehindCard_9 : decode cX0_isBehindCard 9 = .ok (.goto 4, 3) := by decide +kernel
theorem dX0_isBehindCard_12 : decode cX0_isBehindCard 12 = .ok (.iconst 0, 1) := by decide +kernel
theorem dX0_isBehindCard_13 : decode cX0_isBehindCard 13 = .ok (.ireturn, 1) := by decide +kernel
theorem dX0_accepts_0 : decode cX0_accepts 0 = .ok (.aload_n 0, 1) := by decide +kernel
theorem dX0_accepts_1 : decode cX0_accepts 1 = .ok (.getfield 21, 3) := by decide +kernel
theorem dX0_accepts_4 : decode cX0_accepts 4 = .ok (.tableswitch 93 0 3 #[32, 55, 64, 84], 32) := by decide +kernel
theorem dX0_accepts_36 : decode cX0_accepts 36 = .ok (.iload_n 1, 1) := by decide +kernel
theorem dX0_accepts_37 : decode cX0_accepts 37 = .ok (.bipush 76, 2) := by decide +kernel
theorem dX0_accepts_39 : decode cX0_accepts 39 = .ok (.if_icmp .ne 11, 3) := by decide +kernel
theorem dX0_accepts_42 : decode cX0_accepts 42 = .ok (.aload_n 0, 1) := by decide +kernel
theorem dX0_accepts_43 : decode cX0_accepts 43 = .ok (.iconst 1, 1) := by decide +kernel
theorem dX0_accepts_44 : decode cX0_accepts 44 = .ok (.invokevirtual 27, 3) := by decide +kernel
theorem dX0_accepts_47 : decode cX0_accepts 47 = .ok (.goto 11, 3) := by decide +kernel
theorem dX0_accepts_50 : decode cX0_accepts 50 = .ok (.aload_n 0, 1) := by decide +kernel
theorem dX0_accepts_51 : decode cX0_accepts 51 = .ok (.iload_n 1, 1) := by decide +kernel
theorem dX0_accepts_52 : decode cX0_accepts 52 = .ok (.bipush 48, 2) := by decide +kernel
theorem dX0_accepts_54 : decode cX0_accepts 54 = .ok (.isub, 1) := by decide +kernel
theorem dX0_accepts_55 : decode cX0_accepts 55 = .ok (.invokevirtual 31, 3) := by decide +kernel
theorem dX0_accepts_58 : decode cX0_accepts 58 = .ok (.ireturn, 1) := by decide +kernel
theorem dX0_accepts_59 : decode cX0_accepts 59 = .ok (.aload_n 0, 1) := by decide +kernel
theorem dX0_accepts_60 : decode cX0_accepts 60 = .ok (.iload_n 1, 1) := by decide +kernel
theorem dX0_accepts_61 : decode cX0_accepts 61 = .ok (.bipush 48, 2) := by decide +kernel
theorem dX0_accepts_63 : decode cX0_accepts 63 = .ok (.isub, 1) := by decide +kernel
theorem dX0_accepts_64 : decode cX0_accepts 64 = .ok (.invokevirtual 34, 3) := by decide +kernel
theorem dX0_accepts_67 : decode cX0_accepts 67 = .ok (.ireturn, 1) := by decide +kernel
theorem dX0_accepts_68 : decode cX0_accepts 68 = .ok (.iload_n 1, 1) := by decide +kernel
theorem dX0_accepts_69 : decode cX0_accepts 69 = .ok (.bipush 82, 2) := by decide +kernel
theorem dX0_accepts_71 : decode cX0_accepts 71 = .ok (.if_icmp .ne 15, 3) := by decide +kernel
theorem dX0_accepts_74 : decode cX0_accepts 74 = .ok (.aload_n 0, 1) := by decide +kernel
theorem dX0_accepts_75 : decode cX0_accepts 75 = .ok (.iconst 3, 1) := by decide +kernel
theorem dX0_accepts_76 : decode cX0_accepts 76 = .ok (.invokevirtual 27, 3) := by decide +kernel
theorem dX0_accepts_79 : decode cX0_accepts 79 = .ok (.ifCond .eq 7, 3) := by decide +kernel
theorem dX0_accepts_82 : decode cX0_accepts 82 = .ok (.iconst 1, 1) := by decide +kernel
theorem dX0_accepts_83 : decode cX0_accepts 83 = .ok (.goto 4, 3) := by decide +kernel
theorem dX0_accepts_86 : decode cX0_accepts 86 = .ok (.iconst 0, 1) := by decide +kernel
theorem dX0_accepts_87 : decode cX0_accepts 87 = .ok (.ireturn, 1) := by decide +kernel
theorem dX0_accepts_88 : decode cX0_accepts 88 = .ok (.aload_n 0, 1) := by decide +kernel
theorem dX0_accepts_89 : decode cX0_accepts 89 = .ok (.iload_n 1, 1) := by decide +kernel
theorem dX0_accepts_90 : decode cX0_accepts 90 = .ok (.bipush 48, 2) := by decide +kernel
theorem dX0_accepts_92 : decode cX0_accepts 92 = .ok (.isub, 1) := by decide +kernel
theorem dX0_accepts_93 : decode cX0_accepts 93 = .ok (.invokevirtual 37, 3) := by decide +kernel
theorem dX0_accepts_96 : decode cX0_accepts 96 = .ok (.ireturn, 1) := by decide +kernel
theorem dX0_accepts_97 : decode cX0_accepts 97 = .ok (.iload_n 1, 1) := by decide +kernel
theorem dX0_accepts_98 : decode cX0_accepts 98 = .ok (.bipush 59, 2) := by decide +kernel
theorem dX0_accepts_100 : decode cX0_accepts 100 = .ok (.if_icmp .ne 14, 3) := by decide +kernel
theorem dX0_accepts_103 : decode cX0_accepts 103 = .ok (.aload_n 0, 1) := by decide +kernel
theorem dX0_accepts_104 : decode cX0_accepts 104 = .ok (.invokevirtual 40, 3) := by decide +kernel
theorem dX0_accepts_107 : decode cX0_accepts 107 = .ok (.ifCond .eq 7, 3) := by decide +kernel
theorem dX0_accepts_110 : decode cX0_accepts 110 = .ok (.iconst 1, 1) := by decide +kernel
theorem dX0_accepts_111 : decode cX0_accepts 111 = .ok (.goto 4, 3) := by decide +kernel
theorem dX0_accepts_114 : decode cX0_accepts 114 = .ok (.iconst 0, 1) := by decide +kernel
theorem dX0_accepts_115 : decode cX0_accepts 115 = .ok (.ireturn, 1) := by decide +kernel
theorem dX0_acceptsFrame_0 : decode cX0_acceptsFrame 0 = .ok (.iload_n 1, 1) := by decide +kernel
theorem dX0_acceptsFrame_1 : decode cX0_acceptsFrame 1 = .ok (.aload_n 0, 1) := by decide +kernel
theorem dX0_acceptsFrame_2 : decode cX0_acceptsFrame 2 = .ok (.getfield 24, 3) := by decide +kernel
theorem dX0_acceptsFrame_5 : decode cX0_acceptsFrame 5 = .ok (.iconst 5, 1) := by decide +kernel
theorem dX0_acceptsFrame_6 : decode cX0_acceptsFrame 6 = .ok (.invokestatic 44, 3) := by decide +kernel
theorem dX0_acceptsFrame_9 : decode cX0_acceptsFrame 9 = .ok (.ifCond .ne 5, 3) := by decide +kernel
theorem dX0_acceptsFrame_12 : decode cX0_acceptsFrame 12 = .ok (.iconst 0, 1) := by decide +kernel
theorem dX0_acceptsFrame_13 : decode cX0_acceptsFrame 13 = .ok (.ireturn, 1) := by decide +kernel
theorem dX0_acceptsFrame_14 : decode cX0_acceptsFrame 14 = .ok (.aload_n 0, 1) := by decide +kernel
theorem dX0_acceptsFrame_15 : decode cX0_acceptsFrame 15 = .ok (.dup, 1) := by decide +kernel
theorem dX0_acceptsFrame_16 : decode cX0_acceptsFrame 16 = .ok (.getfield 9, 3) := by decide +kernel
theorem dX0_acceptsFrame_19 : decode cX0_acceptsFrame 19 = .ok (.iconst 1, 1) := by decide +kernel
theorem dX0_acceptsFrame_20 : decode cX0_acceptsFrame 20 = .ok (.iload_n 1, 1) := by decide +kernel
theorem dX0_acceptsFrame_21 : decode cX0_acceptsFrame 21 = .ok (.ishl, 1) := by decide +kernel
theorem dX0_acceptsFrame_22 : decode cX0_acceptsFrame 22 = .ok (.ior, 1) := by decide +kernel
theorem dX0_acceptsFrame_23 : decode cX0_acceptsFrame 23 = .ok (.putfield 9, 3) := by decide +kernel
theorem dX0_acceptsFrame_26 : decode cX0_acceptsFrame 26 = .ok (.aload_n 0, 1) := by decide +kernel
theorem dX0_acceptsFrame_27 : decode cX0_acceptsFrame 27 = .ok (.iload_n 1, 1) := by decide +kernel
theorem dX0_acceptsFrame_28 : decode cX0_acceptsFrame 28 = .ok (.iconst 1, 1) := by decide +kernel
theorem dX0_acceptsFrame_29 : decode cX0_acceptsFrame 29 = .ok (.iadd, 1) := by decide +kernel
theorem dX0_acceptsFrame_30 : decode cX0_acceptsFrame 30 = .ok (.putfield 24, 3) := by decide +kernel
theorem dX0_acceptsFrame_33 : decode cX0_acceptsFrame 33 = .ok (.iconst 1, 1) := by decide +kernel
theorem dX0_acceptsFrame_34 : decode cX0_acceptsFrame 34 = .ok (.ireturn, 1) := by decide +kernel
theorem dX0_acceptsLeft_0 : decode cX0_acceptsLeft 0 = .ok (.aload_n 0, 1) := by decide +kernel
theorem dX0_acceptsLeft_1 : decode cX0_acceptsLeft 1 = .ok (.iload_n 1, 1) := by decide +kernel
theorem dX0_acceptsLeft_2 : decode cX0_acceptsLeft 2 = .ok (.putfield 15, 3) := by decide +kernel
theorem dX0_acceptsLeft_5 : decode cX0_acceptsLeft 5 = .ok (.iconst 0, 1) := by decide +kernel
theorem dX0_acceptsLeft_6 : decode cX0_acceptsLeft 6 = .ok (.iload_n 1, 1) := by decide +kernel
theorem dX0_acceptsLeft_7 : decode cX0_acceptsLeft 7 = .ok (.invokestatic 48, 3) := by decide +kernel
theorem dX0_acceptsLeft_10 : decode cX0_acceptsLeft 10 = .ok (.ifCond .eq 15, 3) := by decide +kernel
theorem dX0_acceptsLeft_13 : decode cX0_acceptsLeft 13 = .ok (.aload_n 0, 1) := by decide +kernel
theorem dX0_acceptsLeft_14 : decode cX0_acceptsLeft 14 = .ok (.iconst 2, 1) := by decide +kernel
theorem dX0_acceptsLeft_15 : decode cX0_acceptsLeft 15 = .ok (.invokevirtual 27, 3) := by decide +kernel
theorem dX0_acceptsLeft_18 : decode cX0_acceptsLeft 18 = .ok (.ifCond .eq 7, 3) := by decide +kernel
theorem dX0_acceptsLeft_21 : decode cX0_acceptsLeft 21 = .ok (.iconst 1, 1) := by decide +kernel
theorem dX0_acceptsLeft_22 : decode cX0_acceptsLeft 22 = .ok (.goto 4, 3) := by decide +kernel
theorem dX0_acceptsLeft_25 : decode cX0_acceptsLeft 25 = .ok (.iconst 0, 1) := by decide +kernel
theorem dX0_acceptsLeft_26 : decode cX0_acceptsLeft 26 = .ok (.ireturn, 1) := by decide +kernel
theorem dX0_acceptsRight_0 : decode cX0_acceptsRight 0 = .ok (.aload_n 0, 1) := by decide +kernel
theorem dX0_acceptsRight_1 : decode cX0_acceptsRight 1 = .ok (.iload_n 1, 1) := by decide +kernel
theorem dX0_acceptsRight_2 : decode cX0_acceptsRight 2 = .ok (.putfield 18, 3) := by decide +kernel
theorem dX0_acceptsRight_5 : decode cX0_acceptsRight 5 = .ok (.iconst 1, 1) := by decide +kernel
theorem dX0_acceptsRight_6 : decode cX0_acceptsRight 6 = .ok (.iload_n 1, 1) := by decide +kernel
theorem dX0_acceptsRight_7 : decode cX0_acceptsRight 7 = .ok (.invokestatic 48, 3) := by decide +kernel
theorem dX0_acceptsRight_10 : decode cX0_acceptsRight 10 = .ok (.ifCond .eq 15, 3) := by decide +kernel
theorem dX0_acceptsRight_13 : decode cX0_acceptsRight 13 = .ok (.aload_n 0, 1) := by decide +kernel
theorem dX0_acceptsRight_14 : decode cX0_acceptsRight 14 = .ok (.iconst 4, 1) := by decide +kernel
theorem dX0_acceptsRight_15 : decode cX0_acceptsRight 15 = .ok (.invokevirtual 27, 3) := by decide +kernel
theorem dX0_acceptsRight_18 : decode cX0_acceptsRight 18 = .ok (.ifCond .eq 7, 3) := by decide +kernel
theorem dX0_acceptsRight_21 : decode cX0_acceptsRight 21 = .ok (.iconst 1, 1) := by decide +kernel
theorem dX0_acceptsRight_22 : decode cX0_acceptsRight 22 = .ok (.goto 4, 3) := by decide +kernel
theorem dX0_acceptsRight_25 : decode cX0_acceptsRight 25 = .ok (.iconst 0, 1) := by decide +kernel
theorem dX0_acceptsRight_26 : decode cX0_acceptsRight 26 = .ok (.ireturn, 1) := by decide +kernel
theorem dX0_startNext_0 : decode cX0_startNext 0 = .ok (.aload_n 0, 1) := by decide +kernel
theorem dX0_startNext_1 : decode cX0_startNext 1 = .ok (.invokevirtual 52, 3) := by decide +kernel
theorem dX0_startNext_4 : decode cX0_startNext 4 = .ok (.iconst 1, 1) := by decide +kernel
theorem dX0_startNext_5 : decode cX0_startNext 5 = .ok (.ireturn, 1) := by decide +kernel
theorem dX0_goTo_0 : decode cX0_goTo 0 = .ok (.aload_n 0, 1) := by decide +kernel
theorem dX0_goTo_1 : decode cX0_goTo 1 = .ok (.iload_n 1, 1) := by decide +kernel
theorem dX0_goTo_2 : decode cX0_goTo 2 = .ok (.putfield 21, 3) := by decide +kernel
theorem dX0_goTo_5 : decode cX0_goTo 5 = .ok (.iconst 1, 1) := by decide +kernel
theorem dX0_goTo_6 : decode cX0_goTo 6 = .ok (.ireturn, 1) := by decide +kernel
end
section
theorem dX1_init_0 : decode cX1_init 0 = .ok (.aload_n 0, 1) := by decide +kernel
theorem dX1_init_1 : decode cX1_init 1 = .ok (.invokespecial 3, 3) := by decide +kernel
theorem dX1_init_4 : decode cX1_init 4 = .ok (.aload_n 0, 1) := by decide +kernel
theorem dX1_init_5 : decode cX1_init 5 = .ok (.bipush 16, 2) := by decide +kernel
theorem dX1_init_7 : decode cX1_init 7 = .ok (.newarray .int, 2) := by decide +kernel
theorem dX1_init_9 : decode cX1_init 9 = .ok (.putfield 9, 3) := by decide +kernel
theorem dX1_init_12 : decode cX1_init 12 = .ok (.aload_n 0, 1) := by decide +kernel
theorem dX1_init_13 : decode cX1_init 13 = .ok (.bipush 16, 2) := by decide +kernel
theorem dX1_init_15 : decode cX1_init 15 = .ok (.newarray .int, 2) := by decide +kernel
theorem dX1_init_17 : decode cX1_init 17 = .ok (.putfield 15, 3) := by decide +kernel
theorem dX1_init_20 : decode cX1_init 20 = .ok (.aload_n 0, 1) := by decide +kernel
theorem dX1_init_21 : decode cX1_init 21 = .ok (.bipush 16, 2) := by decide +kernel
theorem dX1_init_23 : decode cX1_init 23 = .ok (.newarray .int, 2) := by decide +kernel
theorem dX1_init_25 : decode cX1_init 25 = .ok (.putfield 18, 3) := by decide +kernel
theorem dX1_init_28 : decode cX1_init 28 = .ok (.aload_n 0, 1) := by decide +kernel
theorem dX1_init_29 : decode cX1_init 29 = .ok (.iconst 0, 1) := by decide +kernel
theorem dX1_init_30 : decode cX1_init 30 = .ok (.putfield 21, 3) := by decide +kernel
theorem dX1_init_33 : decode cX1_init 33 = .ok (.aload_n 0, 1) := by decide +kernel
theorem dX1_init_34 : decode cX1_init 34 = .ok (.iconst 0, 1) := by decide +kernel
theorem dX1_init_35 : decode cX1_init 35 = .ok (.putfield 25, 3) := by decide +kernel
theorem dX1_init_38 : decode cX1_init 38 = .ok (.return_, 1) := by decide +kernel
theorem dX1_copyFrom_0 : decode cX1_copyFrom 0 = .ok (.aload_n 1, 1) := by decide +kernel
theorem dX1_copyFrom_1 : decode cX1_copyFrom 1 = .ok (.getfield 9, 3) := by decide +kernel
theorem dX1_copyFrom_4 : decode cX1_copyFrom 4 = .ok (.iconst 0, 1) := by decide +kernel
theorem dX1_copyFrom_5 : decode cX1_copyFrom 5 = .ok (.aload_n 0, 1) := by decide +kernel
theorem dX1_copyFrom_6 : decode cX1_copyFrom 6 = .ok (.getfield 9, 3) := by decide +kernel
theorem dX1_copyFrom_9 : decode cX1_copyFrom 9 = .ok (.iconst 0, 1) := by decide +kernel
theorem dX1_copyFrom_10 : decode cX1_copyFrom 10 = .ok (.bipush 16, 2) := by decide +kernel
theorem dX1_copyFrom_12 : decode cX1_copyFrom 12 = .ok (.invokestatic 28, 3) := by decide +kernel
theorem dX1_copyFrom_15 : decode cX1_copyFrom 15 = .ok (.aload_n 1, 1) := by decide +kernel
theorem dX1_copyFrom_16 : decode cX1_copyFrom 16 = .ok (.getfield 15, 3) := by decide +kernel
theorem dX1_copyFrom_19 : decode cX1_copyFrom 19 = .ok (.iconst 0, 1) := by decide +kernel
theorem dX1_copyFrom_20 : decode cX1_copyFrom 20 = .ok (.aload_n 0, 1) := by decide +kernel
theorem dX1_copyFrom_21 : decode cX1_copyFrom 21 = .ok (.getfield 15, 3) := by decide +kernel
theorem dX1_copyFrom_24 : decode cX1_copyFrom 24 = .ok (.iconst 0, 1) := by decide +kernel
theorem dX1_copyFrom_25 : decode cX1_copyFrom 25 = .ok (.bipush 16, 2) := by decide +kernel
theorem dX1_copyFrom_27 : decode cX1_copyFrom 27 = .ok (.invokestatic 28, 3) := by decide +kernel
theorem dX1_copyFrom_30 : decode cX1_copyFrom 30 = .ok (.aload_n 1, 1) := by decide +kernel
theorem dX1_copyFrom_31 : decode cX1_copyFrom 31 = .ok (.getfield 18, 3) := by decide +kernel
theorem dX1_copyFrom_34 : decode cX1_copyFrom 34 = .ok (.iconst 0, 1) := by decide +kernel
theorem dX1_copyFrom_35 : decode cX1_copyFrom 35 = .ok (.aload_n 0, 1) := by decide +kernel
theorem dX1_copyFrom_36 : decode cX1_copyFrom 36 = .ok (.getfield 18, 3) := by decide +kernel
theorem dX1_copyFrom_39 : decode cX1_copyFrom 39 = .ok (.iconst 0, 1) := by decide +kernel
theorem dX1_copyFrom_40 : decode cX1_copyFrom 40 = .ok (.bipush 16, 2) := by decide +kernel
theorem dX1_copyFrom_42 : decode cX1_copyFrom 42 = .ok (.invokestatic 28, 3) := by decide +kernel
theorem dX1_copyFrom_45 : decode cX1_copyFrom 45 = .ok (.aload_n 0, 1) := by decide +kernel
theorem dX1_copyFrom_46 : decode cX1_copyFrom 46 = .ok (.aload_n 1, 1) := by decide +kernel
theorem dX1_copyFrom_47 : decode cX1_copyFrom 47 = .ok (.getfield 21, 3) := by decide +kernel
theorem dX1_copyFrom_50 : decode cX1_copyFrom 50 = .ok (.putfield 21, 3) := by decide +kernel
theorem dX1_copyFrom_53 : decode cX1_copyFrom 53 = .ok (.aload_n 0, 1) := by decide +kernel
theorem dX1_copyFrom_54 : decode cX1_copyFrom 54 = .ok (.aload_n 1, 1) := by decide +kernel
theorem dX1_copyFrom_55 : decode cX1_copyFrom 55 = .ok (.getfield 25, 3) := by decide +kernel
theorem dX1_copyFrom_58 : decode cX1_copyFrom 58 = .ok (.putfield 25, 3) := by decide +kernel
theorem dX1_copyFrom_61 : decode cX1_copyFrom 61 = .ok (.return_, 1) := by decide +kernel
theorem dX1_has_0 : decode cX1_has 0 = .ok (.iload_n 1, 1) := by decide +kernel
theorem dX1_has_1 : decode cX1_has 1 = .ok (.ifCond .lt 21, 3) := by decide +kernel
theorem dX1_has_4 : decode cX1_has 4 = .ok (.iload_n 1, 1) := by decide +kernel
theorem dX1_has_5 : decode cX1_has 5 = .ok (.aload_n 0, 1) := by decide +kernel
theorem dX1_has_6 : decode cX1_has 6 = .ok (.getfield 21, 3) := by decide +kernel
theorem dX1_has_9 : decode cX1_has 9 = .ok (.if_icmp .ge 13, 3) := by decide +kernel
theorem dX1_has_12 : decode cX1_has 12 = .ok (.iload_n 1, 1) := by decide +kernel
theorem dX1_has_13 : decode cX1_has 13 = .ok (.bipush 16, 2) := by decide +kernel
theorem dX1_has_15 : decode cX1_has 15 = .ok (.if_icmp .ge 7, 3) := by decide +kernel
theorem dX1_has_18 : decode cX1_has 18 = .ok (.iconst 1, 1) := by decide +kernel
theorem dX1_has_19 : decode cX1_has 19 = .ok (.goto 4, 3) := by decide +kernel
theorem dX1_has_22 : decode cX1_has 22 = .ok (.iconst 0, 1) := by decide +kernel
theorem dX1_has_23 : decode cX1_has 23 = .ok (.ireturn, 1) := by decide +kernel
theorem dX1_framesOf_0 : decode cX1_framesOf 0 = .ok (.aload_n 0, 1) := by decide +kernel
theorem dX1_framesOf_1 : decode cX1_framesOf 1 = .ok (.iload_n 1, 1) := by decide +kernel
theorem dX1_framesOf_2 : decode cX1_framesOf 2 = .ok (.invokevirtual 34, 3) := by decide +kernel
theorem dX1_framesOf_5 : decode cX1_framesOf 5 = .ok (.ifCond .eq 12, 3) := by decide +kernel
theorem dX1_framesOf_8 : decode cX1_framesOf 8 = .ok (.aload_n 0, 1) := by decide +kernel
theorem dX1_framesOf_9 : decode cX1_framesOf 9 = .ok (.getfield 9, 3) := by decide +kernel
theorem dX1_framesOf_12 : decode cX1_framesOf 12 = .ok (.iload_n 1, 1) := by decide +kernel
theorem dX1_framesOf_13 : decode cX1_framesOf 13 = .ok (.iaload, 1) := by decide +kernel
theorem dX1_framesOf_14 : decode cX1_framesOf 14 = .ok (.goto 4, 3) := by decide +kernel
theorem dX1_framesOf_17 : decode cX1_framesOf 17 = .ok (.iconst 0, 1) := by decide +kernel
theorem dX1_framesOf_18 : decode cX1_framesOf 18 = .ok (.ireturn, 1) := by decide +kernel
theorem dX1_boxOf_0 : decode cX1_boxOf 0 = .ok (.aload_n 0, 1) := by decide +kernel
theorem dX1_boxOf_1 : decode cX1_boxOf 1 = .ok (.iload_n 1, 1) := by decide +kernel
theorem dX1_boxOf_2 : decode cX1_boxOf 2 = .ok (.invokevirtual 34, 3) := by decide +kernel
theorem dX1_boxOf_5 : decode cX1_boxOf 5 = .ok (.ifCond .ne 6, 3) := by decide +kernel
theorem dX1_boxOf_8 : decode cX1_boxOf 8 = .ok (.bipush (-6), 2) := by decide +kernel
theorem dX1_boxOf_10 : decode cX1_boxOf 10 = .ok (.ireturn, 1) := by decide +kernel
theorem dX1_boxOf_11 : decode cX1_boxOf 11 = .ok (.iload_n 2, 1) := by decide +kernel
theorem dX1_boxOf_12 : decode cX1_boxOf 12 = .ok (.ifCond .ne 12, 3) := by decide +kernel
theorem dX1_boxOf_15 : decode cX1_boxOf 15 = .ok (.aload_n 0, 1) := by decide +kernel
theorem dX1_boxOf_16 : decode cX1_boxOf 16 = .ok (.getfield 15, 3) := by decide +kernel
theorem dX1_boxOf_19 : decode cX1_boxOf 19 = .ok (.iload_n 1, 1) := by decide +kernel
theorem dX1_boxOf_20 : decode cX1_boxOf 20 = .ok (.iaload, 1) := by decide +kernel
theorem dX1_boxOf_21 : decode cX1_boxOf 21 = .ok (.goto 9, 3) := by decide +kernel
theorem dX1_boxOf_24 : decode cX1_boxOf 24 = .ok (.aload_n 0, 1) := by decide +kernel
theorem dX1_boxOf_25 : decode cX1_boxOf 25 = .ok (.getfield 18, 3) := by decide +kernel
theorem dX1_boxOf_28 : decode cX1_boxOf 28 = .ok (.iload_n 1, 1) := by decide +kernel
theorem dX1_boxOf_29 : decode cX1_boxOf 29 = .ok (.iaload, 1) := by decide +kernel
theorem dX1_boxOf_30 : decode cX1_boxOf 30 = .ok (.ireturn, 1) := by decide +kernel
theorem dX1_append_0 : decode cX1_append 0 = .ok (.aload_n 0, 1) := by decide +kernel
theorem dX1_append_1 : decode cX1_append 1 = .ok (.getfield 21, 3) := by decide +kernel
theorem dX1_append_4 : decode cX1_append 4 = .ok (.ifCond .lt 52, 3) := by decide +kernel
theorem dX1_append_7 : decode cX1_append 7 = .ok (.aload_n 0, 1) := by decide +kernel
theorem dX1_append_8 : decode cX1_append 8 = .ok (.getfield 21, 3) := by decide +kernel
theorem dX1_append_11 : decode cX1_append 11 = .ok (.bipush 16, 2) := by decide +kernel
theorem dX1_append_13 : decode cX1_append 13 = .ok (.if_icmp .ge 43, 3) := by decide +kernel
theorem dX1_append_16 : decode cX1_append 16 = .ok (.aload_n 0, 1) := by decide +kernel
theorem dX1_append_17 : decode cX1_append 17 = .ok (.getfield 9, 3) := by decide +kernel
theorem dX1_append_20 : decode cX1_append 20 = .ok (.aload_n 0, 1) := by decide +kernel
theorem dX1_append_21 : decode cX1_append 21 = .ok (.getfield 21, 3) := by decide +kernel
theorem dX1_append_24 : decode cX1_append 24 = .ok (.iload_n 1, 1) := by decide +kernel
theorem dX1_append_25 : decode cX1_append 25 = .ok (.iastore, 1) := by decide +kernel
theorem dX1_append_26 : decode cX1_append 26 = .ok (.aload_n 0, 1) := by decide +kernel
theorem dX1_append_27 : decode cX1_append 27 = .ok (.getfield 15, 3) := by decide +kernel
theorem dX1_append_30 : decode cX1_append 30 = .ok (.aload_n 0, 1) := by decide +kernel
theorem dX1_append_31 : decode cX1_append 31 = .ok (.getfield 21, 3) := by decide +kernel
theorem dX1_append_34 : decode cX1_append 34 = .ok (.iload_n 2, 1) := by decide +kernel
theorem dX1_append_35 : decode cX1_append 35 = .ok (.iastore, 1) := by decide +kernel
theorem dX1_append_36 : decode cX1_append 36 = .ok (.aload_n 0, 1) := by decide +kernel
theorem dX1_append_37 : decode cX1_append 37 = .ok (.getfield 18, 3) := by decide +kernel
theorem dX1_append_40 : decode cX1_append 40 = .ok (.aload_n 0, 1) := by decide +kernel
theorem dX1_append_41 : decode cX1_append 41 = .ok (.getfield 21, 3) := by decide +kernel
theorem dX1_append_44 : decode cX1_append 44 = .ok (.iload_n 3, 1) := by decide +kernel
theorem dX1_append_45 : decode cX1_append 45 = .ok (.iastore, 1) := by decide +kernel
theorem dX1_append_46 : decode cX1_append 46 = .ok (.aload_n 0, 1) := by decide +kernel
theorem dX1_append_47 : decode cX1_append 47 = .ok (.dup, 1) := by decide +kernel
theorem dX1_append_48 : decode cX1_append 48 = .ok (.getfield 21, 3) := by decide +kernel
theorem dX1_append_51 : decode cX1_append 51 = .ok (.iconst 1, 1) := by decide +kernel
theorem dX1_append_52 : decode cX1_append 52 = .ok (.iadd, 1) := by decide +kernel
theorem dX1_append_53 : decode cX1_append 53 = .ok (.putfield 21, 3) := by decide +kernel
theorem dX1_append_56 : decode cX1_append 56 = .ok (.return_, 1) := by decide +kernel
theorem dX1_remove_0 : decode cX1_remove 0 = .ok (.aload_n 0, 1) := by decide +kernel
theorem dX1_remove_1 : decode cX1_remove 1 = .ok (.iload_n 1, 1) := by decide +kernel
theorem dX1_remove_2 : decode cX1_remove 2 = .ok (.invokevirtual 34, 3) := by decide +kernel
theorem dX1_remove_5 : decode cX1_remove 5 = .ok (.ifCond .ne 4, 3) := by decide +kernel
theorem dX1_remove_8 : decode cX1_remove 8 = .ok (.return_, 1) := by decide +kernel
theorem dX1_remove_9 : decode cX1_remove 9 = .ok (.iload_n 1, 1) := by decide +kernel
theorem dX1_remove_10 : decode cX1_remove 10 = .ok (.istore_n 2, 1) := by decide +kernel
theorem dX1_remove_11 : decode cX1_remove 11 = .ok (.iload_n 2, 1) := by decide +kernel
theorem dX1_remove_12 : decode cX1_remove 12 = .ok (.iconst 1, 1) := by decide +kernel
theorem dX1_remove_13 : decode cX1_remove 13 = .ok (.iadd, 1) := by decide +kernel
theorem dX1_remove_14 : decode cX1_remove 14 = .ok (.aload_n 0, 1) := by decide +kernel
theorem dX1_remove_15 : decode cX1_remove 15 = .ok (.getfield 21, 3) := by decide +kernel
theorem dX1_remove_18 : decode cX1_remove 18 = .ok (.if_icmp .ge 59, 3) := by decide +kernel
theorem dX1_remove_21 : decode cX1_remove 21 = .ok (.iload_n 2, 1) := by decide +kernel
theorem dX1_remove_22 : decode cX1_remove 22 = .ok (.iconst 1, 1) := by decide +kernel
theorem dX1_remove_23 : decode cX1_remove 23 = .ok (.iadd, 1) := by decide +kernel
theorem dX1_remove_24 : decode cX1_remove 24 = .ok (.bipush 16, 2) := by decide +kernel
theorem dX1_remove_26 : decode cX1_remove 26 = .ok (.if_icmp .ge 51, 3) := by decide +kernel
theorem dX1_remove_29 : decode cX1_remove 29 = .ok (.aload_n 0, 1) := by decide +kernel
theorem dX1_remove_30 : decode cX1_remove 30 = .ok (.getfield 9, 3) := by decide +kernel
theorem dX1_remove_33 : decode cX1_remove 33 = .ok (.iload_n 2, 1) := by decide +kernel
theorem dX1_remove_34 : decode cX1_remove 34 = .ok (.aload_n 0, 1) := by decide +kernel
theorem dX1_remove_35 : decode cX1_remove 35 = .ok (.getfield 9, 3) := by decide +kernel
theorem dX1_remove_38 : decode cX1_remove 38 = .ok (.iload_n 2, 1) := by decide +kernel
theorem dX1_remove_39 : decode cX1_remove 39 = .ok (.iconst 1, 1) := by decide +kernel
theorem dX1_remove_40 : decode cX1_remove 40 = .ok (.iadd, 1) := by decide +kernel
theorem dX1_remove_41 : decode cX1_remove 41 = .ok (.iaload, 1) := by decide +kernel
theorem dX1_remove_42 : decode cX1_remove 42 = .ok (.iastore, 1) := by decide +kernel
theorem dX1_remove_43 : decode cX1_remove 43 = .ok (.aload_n 0, 1) := by decide +kernel
theorem dX1_remove_44 : decode cX1_remove 44 = .ok (.getfield 15, 3) := by decide +kernel
theorem dX1_remove_47 : decode cX1_remove 47 = .ok (.iload_n 2, 1) := by decide +kernel
theorem dX1_remove_48 : decode cX1_remove 48 = .ok (.aload_n 0, 1) := by decide +kernel
theorem dX1_remove_49 : decode cX1_remove 49 = .ok (.getfield 15, 3) := by decide +kernel
theorem dX1_remove_52 : decode cX1_remove 52 = .ok (.iload_n 2, 1) := by decide +kernel
theorem dX1_remove_53 : decode cX1_remove 53 = .ok (.iconst 1, 1) := by decide +kernel
theorem dX1_remove_54 : decode cX1_remove 54 = .ok (.iadd, 1) := by decide +kernel
theorem dX1_remove_55 : decode cX1_remove 55 = .ok (.iaload, 1) := by decide +kernel
theorem dX1_remove_56 : decode cX1_remove 56 = .ok (.iastore, 1) := by decide +kernel
theorem dX1_remove_57 : decode cX1_remove 57 = .ok (.aload_n 0, 1) := by decide +kernel
theorem dX1_remove_58 : decode cX1_remove 58 = .ok (.getfield 18, 3) := by decide +kernel
theorem dX1_remove_61 : decode cX1_remove 61 = .ok (.iload_n 2, 1) := by decide +kernel
theorem dX1_remove_62 : decode cX1_remove 62 = .ok (.aload_n 0, 1) := by decide +kernel
theorem dX1_remove_63 : decode cX1_remove 63 = .ok (.getfield 18, 3) := by decide +kernel
theorem dX1_remove_66 : decode cX1_remove 66 = .ok (.iload_n 2, 1) := by decide +kernel
theorem dX1_remove_67 : decode cX1_remove 67 = .ok (.iconst 1, 1) := by decide +kernel
theorem dX1_remove_68 : decode cX1_remove 68 = .ok (.iadd, 1) := by decide +kernel
theorem dX1_remove_69 : decode cX1_remove 69 = .ok (.iaload, 1) := by decide +kernel
theorem dX1_remove_70 : decode cX1_remove 70 = .ok (.iastore, 1) := by decide +kernel
theorem dX1_remove_71 : decode cX1_remove 71 = .ok (.iinc 2 1, 3) := by decide +kernel
theorem dX1_remove_74 : decode cX1_remove 74 = .ok (.goto (-63), 3) := by decide +kernel
theorem dX1_remove_77 : decode cX1_remove 77 = .ok (.aload_n 0, 1) := by decide +kernel
theorem dX1_remove_78 : decode cX1_remove 78 = .ok (.dup, 1) := by decide +kernel
theorem dX1_remove_79 : decode cX1_remove 79 = .ok (.getfield 21, 3) := by decide +kernel
theorem dX1_remove_82 : decode cX1_remove 82 = .ok (.iconst 1, 1) := by decide +kernel
theorem dX1_remove_83 : decode cX1_remove 83 = .ok (.isub, 1) := by decide +kernel
theorem dX1_remove_84 : decode cX1_remove 84 = .ok (.putfield 21, 3) := by decide +kernel
theorem dX1_remove_87 : decode cX1_remove 87 = .ok (.iload_n 1, 1) := by decide +kernel
theorem dX1_remove_88 : decode cX1_remove 88 = .ok (.aload_n 0, 1) := by decide +kernel
theorem dX1_remove_89 : decode cX1_remove 89 = .ok (.getfield 25, 3) := by decide +kernel
theorem dX1_remove_92 : decode cX1_remove 92 = .ok (.if_icmp .ge 13, 3) := by decide +kernel
theorem dX1_remove_95 : decode cX1_remove 95 = .ok (.aload_n 0, 1) := by decide +kernel
theorem dX1_remove_96 : decode cX1_remove 96 = .ok (.dup, 1) := by decide +kernel
theorem dX1_remove_97 : decode cX1_remove 97 = .ok (.getfield 25, 3) := by decide +kernel
theorem dX1_remove_100 : decode cX1_remove 100 = .ok (.iconst 1, 1) := by decide +kernel
theorem dX1_remove_101 : decode cX1_remove 101 = .ok (.isub, 1) := by decide +kernel
theorem dX1_remove_102 : decode cX1_remove 102 = .ok (.putfield 25, 3) := by decide +kernel
theorem dX1_remove_105 : decode cX1_remove 105 = .ok (.aload_n 0, 1) := by decide +kernel
theorem dX1_remove_106 : decode cX1_remove 106 = .ok (.invokevirtual 38, 3) := by decide +kernel
theorem dX1_remove_109 : decode cX1_remove 109 = .ok (.return_, 1) := by decide +kernel
theorem dX1_goOn_0 : decode cX1_goOn 0 = .ok (.aload_n 0, 1) := by decide +kernel
theorem dX1_goOn_1 : decode cX1_goOn 1 = .ok (.dup, 1) := by decide +kernel
theorem dX1_goOn_2 : decode cX1_goOn 2 = .ok (.getfield 25, 3) := by decide +kernel
theorem dX1_goOn_5 : decode cX1_goOn 5 = .ok (.iconst 1, 1) := by decide +kernel
theorem dX1_goOn_6 : decode cX1_goOn 6 = .ok (.iadd, 1) := by decide +kernel
theorem dX1_goOn_7 : decode cX1_goOn 7 = .ok (.putfield 25, 3) := by decide +kernel
theorem dX1_goOn_10 : decode cX1_goOn 10 = .ok (.aload_n 0, 1) := by decide +kernel
theorem dX1_goOn_11 : decode cX1_goOn 11 = .ok (.invokevirtual 38, 3) := by decide +kernel
theorem dX1_goOn_14 : decode cX1_goOn 14 = .ok (.return_, 1) := by decide +kernel
theorem dX1_startAgainBehindLast_0 : decode cX1_startAgainBehindLast 0 = .ok (.aload_n 0, 1) := by decide +kernel
theorem dX1_startAgainBehindLast_1 : decode cX1_startAgainBehindLast 1 = .ok (.getfield 25, 3) := by decide +kernel
theorem dX1_startAgainBehindLast_4 : decode cX1_startAgainBehindLast 4 = .ok (.aload_n 0, 1) := by decide +kernel
theorem dX1_startAgainBehindLast_5 : decode cX1_startAgainBehindLast 5 = .ok (.getfield 21, 3) := by decide +kernel
theorem dX1_startAgainBehindLast_8 : decode cX1_startAgainBehindLast 8 = .ok (.if_icmp .lt 8, 3) := by decide +kernel
theorem dX1_startAgainBehindLast_11 : decode cX1_startAgainBehindLast 11 = .ok (.aload_n 0, 1) := by decide +kernel
theorem dX1_startAgainBehindLast_12 : decode cX1_startAgainBehindLast 12 = .ok (.iconst 0, 1) := by decide +kernel
theorem dX1_startAgainBehindLast_13 : decode cX1_startAgainBehindLast 13 = .ok (.putfield 25, 3) := by decide +kernel
theorem dX1_startAgainBehindLast_16 : decode cX1_startAgainBehindLast 16 = .ok (.return_, 1) := by decide +kernel
end
section
theorem dX2_init_0 : decode cX2_init 0 = .ok (.aload_n 0, 1) := by decide +kernel
theorem dX2_init_1 : decode cX2_init 1 = .ok (.invokespecial 3, 3) := by decide +kernel
theorem dX2_init_4 : decode cX2_init 4 = .ok (.aload_n 0, 1) := by decide +kernel
theorem dX2_init_5 : decode cX2_init 5 = .ok (.bipush 20, 2) := by decide +kernel
theorem dX2_init_7 : decode cX2_init 7 = .ok (.newarray .int, 2) := by decide +kernel
theorem dX2_init_9 : decode cX2_init 9 = .ok (.putfield 9, 3) := by decide +kernel
theorem dX2_init_12 : decode cX2_init 12 = .ok (.aload_n 0, 1) := by decide +kernel
theorem dX2_init_13 : decode cX2_init 13 = .ok (.bipush 20, 2) := by decide +kernel
theorem dX2_init_15 : decode cX2_init 15 = .ok (.newarray .int, 2) := by decide +kernel
theorem dX2_init_17 : decode cX2_init 17 = .ok (.putfield 15, 3) := by decide +kernel
theorem dX2_init_20 : decode cX2_init 20 = .ok (.aload_n 0, 1) := by decide +kernel
theorem dX2_init_21 : decode cX2_init 21 = .ok (.bipush 20, 2) := by decide +kernel
theorem dX2_init_23 : decode cX2_init 23 = .ok (.newarray .int, 2) := by decide +kernel
theorem dX2_init_25 : decode cX2_init 25 = .ok (.putfield 18, 3) := by decide +kernel
theorem dX2_init_28 : decode cX2_init 28 = .ok (.aload_n 0, 1) := by decide +kernel
theorem dX2_init_29 : decode cX2_init 29 = .ok (.bipush 20, 2) := by decide +kernel
theorem dX2_init_31 : decode cX2_init 31 = .ok (.newarray .int, 2) := by decide +kernel
theorem dX2_init_33 : decode cX2_init 33 = .ok (.putfield 21, 3) := by decide +kernel
theorem dX2_init_36 : decode cX2_init 36 = .ok (.aload_n 0, 1) := by decide +kernel
theorem dX2_init_37 : decode cX2_init 37 = .ok (.bipush 20, 2) := by decide +kernel
theorem dX2_init_39 : decode cX2_init 39 = .ok (.newarray .int, 2) := by decide +kernel
theorem dX2_init_41 : decode cX2_init 41 = .ok (.putfield 24, 3) := by decide +kernel
theorem dX2_init_44 : decode cX2_init 44 = .ok (.aload_n 0, 1) := by decide +kernel
theorem dX2_init_45 : decode cX2_init 45 = .ok (.bipush 20, 2) := by decide +kernel
theorem dX2_init_47 : decode cX2_init 47 = .ok (.newarray .int, 2) := by decide +kernel
theorem dX2_init_49 : decode cX2_init 49 = .ok (.putfield 27, 3) := by decide +kernel
theorem dX2_init_52 : decode cX2_init 52 = .ok (.aload_n 0, 1) := by decide +kernel
theorem dX2_init_53 : decode cX2_init 53 = .ok (.bipush 20, 2) := by decide +kernel
theorem dX2_init_55 : decode cX2_init 55 = .ok (.newarray .int, 2) := by decide +kernel
theorem dX2_init_57 : decode cX2_init 57 = .ok (.putfield 30, 3) := by decide +kernel
theorem dX2_init_60 : decode cX2_init 60 = .ok (.aload_n 0, 1) := by decide +kernel
theorem dX2_init_61 : decode cX2_init 61 = .ok (.iconst 0, 1) := by decide +kernel
theorem dX2_init_62 : decode cX2_init 62 = .ok (.putfield 33, 3) := by decide +kernel
theorem dX2_init_65 : decode cX2_init 65 = .ok (.aload_n 0, 1) := by decide +kernel
theorem dX2_init_66 : decode cX2_init 66 = .ok (.iconst 0, 1) := by decide +kernel
theorem dX2_init_67 : decode cX2_init 67 = .ok (.putfield 37, 3) := by decide +kernel
theorem dX2_init_70 : decode cX2_init 70 = .ok (.return_, 1) := by decide +kernel
theorem dX2_copyFrom_0 : decode cX2_copyFrom 0 = .ok (.aload_n 1, 1) := by decide +kernel
theorem dX2_copyFrom_1 : decode cX2_copyFrom 1 = .ok (.getfield 9, 3) := by decide +kernel
theorem dX2_copyFrom_4 : decode cX2_copyFrom 4 = .ok (.iconst 0, 1) := by decide +kernel
theorem dX2_copyFrom_5 : decode cX2_copyFrom 5 = .ok (.aload_n 0, 1) := by decide +kernel
theorem dX2_copyFrom_6 : decode cX2_copyFrom 6 = .ok (.getfield 9, 3) := by decide +kernel
theorem dX2_copyFrom_9 : decode cX2_copyFrom 9 = .ok (.iconst 0, 1) := by decide +kernel
theorem dX2_copyFrom_10 : decode cX2_copyFrom 10 = .ok (.bipush 20, 2) := by decide +kernel
theorem dX2_copyFrom_12 : decode cX2_copyFrom 12 = .ok (.invokestatic 40, 3) := by decide +kernel
theorem dX2_copyFrom_15 : decode cX2_copyFrom 15 = .ok (.aload_n 1, 1) := by decide +kernel
theorem dX2_copyFrom_16 : decode cX2_copyFrom 16 = .ok (.getfield 15, 3) := by decide +kernel
theorem dX2_copyFrom_19 : decode cX2_copyFrom 19 = .ok (.iconst 0, 1) := by decide +kernel
theorem dX2_copyFrom_20 : decode cX2_copyFrom 20 = .ok (.aload_n 0, 1) := by decide +kernel
theorem dX2_copyFrom_21 : decode cX2_copyFrom 21 = .ok (.getfield 15, 3) := by decide +kernel
theorem dX2_copyFrom_24 : decode cX2_copyFrom 24 = .ok (.iconst 0, 1) := by decide +kernel
theorem dX2_copyFrom_25 : decode cX2_copyFrom 25 = .ok (.bipush 20, 2) := by decide +kernel
theorem dX2_copyFrom_27 : decode cX2_copyFrom 27 = .ok (.invokestatic 40, 3) := by decide +kernel
theorem dX2_copyFrom_30 : decode cX2_copyFrom 30 = .ok (.aload_n 1, 1) := by decide +kernel
theorem dX2_copyFrom_31 : decode cX2_copyFrom 31 = .ok (.getfield 18, 3) := by decide +kernel
theorem dX2_copyFrom_34 : decode cX2_copyFrom 34 = .ok (.iconst 0, 1) := by decide +kernel
theorem dX2_copyFrom_35 : decode cX2_copyFrom 35 = .ok (.aload_n 0, 1) := by decide +kernel
theorem dX2_copyFrom_36 : decode cX2_copyFrom 36 = .ok (.getfield 18, 3) := by decide +kernel
theorem dX2_copyFrom_39 : decode cX2_copyFrom 39 = .ok (.iconst 0, 1) := by decide +kernel
theorem dX2_copyFrom_40 : decode cX2_copyFrom 40 = .ok (.bipush 20, 2) := by decide +kernel
theorem dX2_copyFrom_42 : decode cX2_copyFrom 42 = .ok (.invokestatic 40, 3) := by decide +kernel
theorem dX2_copyFrom_45 : decode cX2_copyFrom 45 = .ok (.aload_n 1, 1) := by decide +kernel
theorem dX2_copyFrom_46 : decode cX2_copyFrom 46 = .ok (.getfield 21, 3) := by decide +kernel
theorem dX2_copyFrom_49 : decode cX2_copyFrom 49 = .ok (.iconst 0, 1) := by decide +kernel
theorem dX2_copyFrom_50 : decode cX2_copyFrom 50 = .ok (.aload_n 0, 1) := by decide +kernel
theorem dX2_copyFrom_51 : decode cX2_copyFrom 51 = .ok (.getfield 21, 3) := by decide +kernel
theorem dX2_copyFrom_54 : decode cX2_copyFrom 54 = .ok (.iconst 0, 1) := by decide +kernel
theorem dX2_copyFrom_55 : decode cX2_copyFrom 55 = .ok (.bipush 20, 2) := by decide +kernel
theorem dX2_copyFrom_57 : decode cX2_copyFrom 57 = .ok (.invokestatic 40, 3) := by decide +kernel
theorem dX2_copyFrom_60 : decode cX2_copyFrom 60 = .ok (.aload_n 1, 1) := by decide +kernel
theorem dX2_copyFrom_61 : decode cX2_copyFrom 61 = .ok (.getfield 24, 3) := by decide +kernel
theorem dX2_copyFrom_64 : decode cX2_copyFrom 64 = .ok (.iconst 0, 1) := by decide +kernel
theorem dX2_copyFrom_65 : decode cX2_copyFrom 65 = .ok (.aload_n 0, 1) := by decide +kernel
theorem dX2_copyFrom_66 : decode cX2_copyFrom 66 = .ok (.getfield 24, 3) := by decide +kernel
theorem dX2_copyFrom_69 : decode cX2_copyFrom 69 = .ok (.iconst 0, 1) := by decide +kernel
theorem dX2_copyFrom_70 : decode cX2_copyFrom 70 = .ok (.bipush 20, 2) := by decide +kernel
theorem dX2_copyFrom_72 : decode cX2_copyFrom 72 = .ok (.invokestatic 40, 3) := by decide +kernel
theorem dX2_copyFrom_75 : decode cX2_copyFrom 75 = .ok (.aload_n 1, 1) := by decide +kernel
theorem dX2_copyFrom_76 : decode cX2_copyFrom 76 = .ok (.getfield 27, 3) := by decide +kernel
theorem dX2_copyFrom_79 : decode cX2_copyFrom 79 = .ok (.iconst 0, 1) := by decide +kernel
theorem dX2_copyFrom_80 : decode cX2_copyFrom 80 = .ok (.aload_n 0, 1) := by decide +kernel
theorem dX2_copyFrom_81 : decode cX2_copyFrom 81 = .ok (.getfield 27, 3) := by decide +kernel
theorem dX2_copyFrom_84 : decode cX2_copyFrom 84 = .ok (.iconst 0, 1) := by decide +kernel
theorem dX2_copyFrom_85 : decode cX2_copyFrom 85 = .ok (.bipush 20, 2) := by decide +kernel
theorem dX2_copyFrom_87 : decode cX2_copyFrom 87 = .ok (.invokestatic 40, 3) := by decide +kernel
theorem dX2_copyFrom_90 : decode cX2_copyFrom 90 = .ok (.aload_n 1, 1) := by decide +kernel
theorem dX2_copyFrom_91 : decode cX2_copyFrom 91 = .ok (.getfield 30, 3) := by decide +kernel
theorem dX2_copyFrom_94 : decode cX2_copyFrom 94 = .ok (.iconst 0, 1) := by decide +kernel
theorem dX2_copyFrom_95 : decode cX2_copyFrom 95 = .ok (.aload_n 0, 1) := by decide +kernel
theorem dX2_copyFrom_96 : decode cX2_copyFrom 96 = .ok (.getfield 30, 3) := by decide +kernel
theorem dX2_copyFrom_99 : decode cX2_copyFrom 99 = .ok (.iconst 0, 1) := by decide +kernel
theorem dX2_copyFrom_100 : decode cX2_copyFrom 100 = .ok (.bipush 20, 2) := by decide +kernel
theorem dX2_copyFrom_102 : decode cX2_copyFrom 102 = .ok (.invokestatic 40, 3) := by decide +kernel
theorem dX2_copyFrom_105 : decode cX2_copyFrom 105 = .ok (.aload_n 0, 1) := by decide +kernel
theorem dX2_copyFrom_106 : decode cX2_copyFrom 106 = .ok (.aload_n 1, 1) := by decide +kernel
theorem dX2_copyFrom_107 : decode cX2_copyFrom 107 = .ok (.getfield 33, 3) := by decide +kernel
theorem dX2_copyFrom_110 : decode cX2_copyFrom 110 = .ok (.putfield 33, 3) := by decide +kernel
theorem dX2_copyFrom_113 : decode cX2_copyFrom 113 = .ok (.aload_n 0, 1) := by decide +kernel
theorem dX2_copyFrom_114 : decode cX2_copyFrom 114 = .ok (.aload_n 1, 1) := by decide +kernel
theorem dX2_copyFrom_115 : decode cX2_copyFrom 115 = .ok (.getfield 37, 3) := by decide +kernel
theorem dX2_copyFrom_118 : decode cX2_copyFrom 118 = .ok (.putfield 37, 3) := by decide +kernel
theorem dX2_copyFrom_121 : decode cX2_copyFrom 121 = .ok (.return_, 1) := by decide +kernel
theorem dX2_has_0 : decode cX2_has 0 = .ok (.iload_n 1, 1) := by decide +kernel
theorem dX2_has_1 : decode cX2_has 1 = .ok (.ifCond .lt 15, 3) := by decide +kernel
theorem dX2_has_4 : decode cX2_has 4 = .ok (.iload_n 1, 1) := by decide +kernel
theorem dX2_has_5 : decode cX2_has 5 = .ok (.aload_n 0, 1) := by decide +kernel
theorem dX2_has_6 : decode cX2_has 6 = .ok (.getfield 33, 3) := by decide +kernel
theorem dX2_has_9 : decode cX2_has 9 = .ok (.if_icmp .ge 7, 3) := by decide +kernel
theorem dX2_has_12 : decode cX2_has 12 = .ok (.iconst 1, 1) := by decide +kernel
theorem dX2_has_13 : decode cX2_has 13 = .ok (.goto 4, 3) := by decide +kernel
theorem dX2_has_16 : decode cX2_has 16 = .ok (.iconst 0, 1) := by decide +kernel
theorem dX2_has_17 : decode cX2_has 17 = .ok (.ireturn, 1) := by decide +kernel
theorem dX2_colourOf_0 : decode cX2_colourOf 0 = .ok (.aload_n 0, 1) := by decide +kernel
theorem dX2_colourOf_1 : decode cX2_colourOf 1 = .ok (.getfield 9, 3) := by decide +kernel
theorem dX2_colourOf_4 : decode cX2_colourOf 4 = .ok (.aload_n 0, 1) := by decide +kernel
theorem dX2_colourOf_5 : decode cX2_colourOf 5 = .ok (.iload_n 1, 1) := by decide +kernel
theorem dX2_colourOf_6 : decode cX2_colourOf 6 = .ok (.invokevirtual 46, 3) := by decide +kernel
theorem dX2_colourOf_9 : decode cX2_colourOf 9 = .ok (.iaload, 1) := by decide +kernel
theorem dX2_colourOf_10 : decode cX2_colourOf 10 = .ok (.ireturn, 1) := by decide +kernel
theorem dX2_isLifted_0 : decode cX2_isLifted 0 = .ok (.aload_n 0, 1) := by decide +kernel
theorem dX2_isLifted_1 : decode cX2_isLifted 1 = .ok (.getfield 15, 3) := by decide +kernel
theorem dX2_isLifted_4 : decode cX2_isLifted 4 = .ok (.aload_n 0, 1) := by decide +kernel
theorem dX2_isLifted_5 : decode cX2_isLifted 5 = .ok (.iload_n 1, 1) := by decide +kernel
theorem dX2_isLifted_6 : decode cX2_isLifted 6 = .ok (.invokevirtual 46, 3) := by decide +kernel
theorem dX2_isLifted_9 : decode cX2_isLifted 9 = .ok (.iaload, 1) := by decide +kernel
theorem dX2_isLifted_10 : decode cX2_isLifted 10 = .ok (.iload_n 2, 1) := by decide +kernel
theorem dX2_isLifted_11 : decode cX2_isLifted 11 = .ok (.invokestatic 50, 3) := by decide +kernel
theorem dX2_isLifted_14 : decode cX2_isLifted 14 = .ok (.ireturn, 1) := by decide +kernel
theorem dX2_longestFloatOf_0 : decode cX2_longestFloatOf 0 = .ok (.iconst 0, 1) := by decide +kernel
theorem dX2_longestFloatOf_1 : decode cX2_longestFloatOf 1 = .ok (.istore_n 2, 1) := by decide +kernel
theorem dX2_longestFloatOf_2 : decode cX2_longestFloatOf 2 = .ok (.iconst 0, 1) := by decide +kernel
theorem dX2_longestFloatOf_3 : decode cX2_longestFloatOf 3 = .ok (.istore_n 3, 1) := by decide +kernel
theorem dX2_longestFloatOf_4 : decode cX2_longestFloatOf 4 = .ok (.iconst 0, 1) := by decide +kernel
theorem dX2_longestFloatOf_5 : decode cX2_longestFloatOf 5 = .ok (.istore 4, 2) := by decide +kernel
theorem dX2_longestFloatOf_7 : decode cX2_longestFloatOf 7 = .ok (.iload 4, 2) := by decide +kernel
theorem dX2_longestFloatOf_9 : decode cX2_longestFloatOf 9 = .ok (.aload_n 0, 1) := by decide +kernel
theorem dX2_longestFloatOf_10 : decode cX2_longestFloatOf 10 = .ok (.getfield 33, 3) := by decide +kernel
theorem dX2_longestFloatOf_13 : decode cX2_longestFloatOf 13 = .ok (.if_icmp .ge 59, 3) := by decide +kernel
theorem dX2_longestFloatOf_16 : decode cX2_longestFloatOf 16 = .ok (.iload 4, 2) := by decide +kernel
theorem dX2_longestFloatOf_18 : decode cX2_longestFloatOf 18 = .ok (.ifCond .le 26, 3) := by decide +kernel
theorem dX2_longestFloatOf_21 : decode cX2_longestFloatOf 21 = .ok (.aload_n 0, 1) := by decide +kernel
theorem dX2_longestFloatOf_22 : decode cX2_longestFloatOf 22 = .ok (.iload 4, 2) := by decide +kernel
theorem dX2_longestFloatOf_24 : decode cX2_longestFloatOf 24 = .ok (.iload_n 1, 1) := by decide +kernel
theorem dX2_longestFloatOf_25 : decode cX2_longestFloatOf 25 = .ok (.invokevirtual 54, 3) := by decide +kernel
theorem dX2_longestFloatOf_28 : decode cX2_longestFloatOf 28 = .ok (.aload_n 0, 1) := by decide +kernel
theorem dX2_longestFloatOf_29 : decode cX2_longestFloatOf 29 = .ok (.iload 4, 2) := by decide +kernel
theorem dX2_longestFloatOf_31 : decode cX2_longestFloatOf 31 = .ok (.iconst 1, 1) := by decide +kernel
theorem dX2_longestFloatOf_32 : decode cX2_longestFloatOf 32 = .ok (.isub, 1) := by decide +kernel
theorem dX2_longestFloatOf_33 : decode cX2_longestFloatOf 33 = .ok (.iload_n 1, 1) := by decide +kernel
theorem dX2_longestFloatOf_34 : decode cX2_longestFloatOf 34 = .ok (.invokevirtual 54, 3) := by decide +kernel
theorem dX2_longestFloatOf_37 : decode cX2_longestFloatOf 37 = .ok (.if_icmp .ne 7, 3) := by decide +kernel
theorem dX2_longestFloatOf_40 : decode cX2_longestFloatOf 40 = .ok (.iconst 1, 1) := by decide +kernel
theorem dX2_longestFloatOf_41 : decode cX2_longestFloatOf 41 = .ok (.goto 4, 3) := by decide +kernel
theorem dX2_longestFloatOf_44 : decode cX2_longestFloatOf 44 = .ok (.iconst 0, 1) := by decide +kernel
theorem dX2_longestFloatOf_45 : decode cX2_longestFloatOf 45 = .ok (.istore 5, 2) := by decide +kernel
theorem dX2_longestFloatOf_47 : decode cX2_longestFloatOf 47 = .ok (.iload 5, 2) := by decide +kernel
theorem dX2_longestFloatOf_49 : decode cX2_longestFloatOf 49 = .ok (.ifCond .eq 9, 3) := by decide +kernel
theorem dX2_longestFloatOf_52 : decode cX2_longestFloatOf 52 = .ok (.iload_n 3, 1) := by decide +kernel
theorem dX2_longestFloatOf_53 : decode cX2_longestFloatOf 53 = .ok (.iconst 1, 1) := by decide +kernel
theorem dX2_longestFloatOf_54 : decode cX2_longestFloatOf 54 = .ok (.iadd, 1) := by decide +kernel
theorem dX2_longestFloatOf_55 : decode cX2_longestFloatOf 55 = .ok (.goto 4, 3) := by decide +kernel
theorem dX2_longestFloatOf_58 : decode cX2_longestFloatOf 58 = .ok (.iconst 1, 1) := by decide +kernel
theorem dX2_longestFloatOf_59 : decode cX2_longestFloatOf 59 = .ok (.istore_n 3, 1) := by decide +kernel
theorem dX2_longestFloatOf_60 : decode cX2_longestFloatOf 60 = .ok (.iload_n 2, 1) := by decide +kernel
theorem dX2_longestFloatOf_61 : decode cX2_longestFloatOf 61 = .ok (.iload_n 3, 1) := by decide +kernel
theorem dX2_longestFloatOf_62 : decode cX2_longestFloatOf 62 = .ok (.invokestatic 57, 3) := by decide +kernel
theorem dX2_longestFloatOf_65 : decode cX2_longestFloatOf 65 = .ok (.istore_n 2, 1) := by decide +kernel
theorem dX2_longestFloatOf_66 : decode cX2_longestFloatOf 66 = .ok (.iinc 4 1, 3) := by decide +kernel
theorem dX2_longestFloatOf_69 : decode cX2_longestFloatOf 69 = .ok (.goto (-62), 3) := by decide +kernel
theorem dX2_longestFloatOf_72 : decode cX2_longestFloatOf 72 = .ok (.iload_n 2, 1) := by decide +kernel
theorem dX2_longestFloatOf_73 : decode cX2_longestFloatOf 73 = .ok (.ireturn, 1) := by decide +kernel
theorem dX2_addRowOf_0 : decode cX2_addRowOf 0 = .ok (.aload_n 0, 1) := by decide +kernel
theorem dX2_addRowOf_1 : decode cX2_addRowOf 1 = .ok (.aload_n 0, 1) := by decide +kernel
theorem dX2_addRowOf_2 : decode cX2_addRowOf 2 = .ok (.iconst (-1), 1) := by decide +kernel
theorem dX2_addRowOf_3 : decode cX2_addRowOf 3 = .ok (.invokevirtual 46, 3) := by decide +kernel
theorem dX2_addRowOf_6 : decode cX2_addRowOf 6 = .ok (.putfield 37, 3) := by decide +kernel
theorem dX2_addRowOf_9 : decode cX2_addRowOf 9 = .ok (.aload_n 0, 1) := by decide +kernel
theorem dX2_addRowOf_10 : decode cX2_addRowOf 10 = .ok (.iconst 0, 1) := by decide +kernel
theorem dX2_addRowOf_11 : decode cX2_addRowOf 11 = .ok (.invokevirtual 46, 3) := by decide +kernel
theorem dX2_addRowOf_14 : decode cX2_addRowOf 14 = .ok (.istore_n 2, 1) := by decide +kernel
theorem dX2_addRowOf_15 : decode cX2_addRowOf 15 = .ok (.aload_n 0, 1) := by decide +kernel
theorem dX2_addRowOf_16 : decode cX2_addRowOf 16 = .ok (.getfield 18, 3) := by decide +kernel
theorem dX2_addRowOf_19 : decode cX2_addRowOf 19 = .ok (.iload_n 2, 1) := by decide +kernel
theorem dX2_addRowOf_20 : decode cX2_addRowOf 20 = .ok (.aload_n 1, 1) := by decide +kernel
theorem dX2_addRowOf_21 : decode cX2_addRowOf 21 = .ok (.invokevirtual 63, 3) := by decide +kernel
theorem dX2_addRowOf_24 : decode cX2_addRowOf 24 = .ok (.iastore, 1) := by decide +kernel
theorem dX2_addRowOf_25 : decode cX2_addRowOf 25 = .ok (.aload_n 0, 1) := by decide +kernel
theorem dX2_addRowOf_26 : decode cX2_addRowOf 26 = .ok (.getfield 9, 3) := by decide +kernel
theorem dX2_addRowOf_29 : decode cX2_addRowOf 29 = .ok (.iload_n 2, 1) := by decide +kernel
theorem dX2_addRowOf_30 : decode cX2_addRowOf 30 = .ok (.aload_n 1, 1) := by decide +kernel
theorem dX2_addRowOf_31 : decode cX2_addRowOf 31 = .ok (.getfield 69, 3) := by decide +kernel
theorem dX2_addRowOf_34 : decode cX2_addRowOf 34 = .ok (.aload_n 0, 1) := by decide +kernel
theorem dX2_addRowOf_35 : decode cX2_addRowOf 35 = .ok (.getfield 18, 3) := by decide +kernel
theorem dX2_addRowOf_38 : decode cX2_addRowOf 38 = .ok (.iload_n 2, 1) := by decide +kernel
theorem dX2_addRowOf_39 : decode cX2_addRowOf 39 = .ok (.iaload, 1) := by decide +kernel
theorem dX2_addRowOf_40 : decode cX2_addRowOf 40 = .ok (.invokevirtual 73, 3) := by decide +kernel
theorem dX2_addRowOf_43 : decode cX2_addRowOf 43 = .ok (.iastore, 1) := by decide +kernel
theorem dX2_addRowOf_44 : decode cX2_addRowOf 44 = .ok (.aload_n 0, 1) := by decide +kernel
theorem dX2_addRowOf_45 : decode cX2_addRowOf 45 = .ok (.getfield 15, 3) := by decide +kernel
theorem dX2_addRowOf_48 : decode cX2_addRowOf 48 = .ok (.iload_n 2, 1) := by decide +kernel
theorem dX2_addRowOf_49 : decode cX2_addRowOf 49 = .ok (.aload_n 1, 1) := by decide +kernel
theorem dX2_addRowOf_50 : decode cX2_addRowOf 50 = .ok (.getfield 78, 3) := by decide +kernel
theorem dX2_addRowOf_53 : decode cX2_addRowOf 53 = .ok (.aload_n 1, 1) := by decide +kernel
theorem dX2_addRowOf_54 : decode cX2_addRowOf 54 = .ok (.invokevirtual 81, 3) := by decide +kernel
theorem dX2_addRowOf_57 : decode cX2_addRowOf 57 = .ok (.invokevirtual 84, 3) := by decide +kernel
theorem dX2_addRowOf_60 : decode cX2_addRowOf 60 = .ok (.iastore, 1) := by decide +kernel
theorem dX2_addRowOf_61 : decode cX2_addRowOf 61 = .ok (.aload_n 0, 1) := by decide +kernel
theorem dX2_addRowOf_62 : decode cX2_addRowOf 62 = .ok (.getfield 21, 3) := by decide +kernel
theorem dX2_addRowOf_65 : decode cX2_addRowOf 65 = .ok (.iload_n 2, 1) := by decide +kernel
theorem dX2_addRowOf_66 : decode cX2_addRowOf 66 = .ok (.aload_n 1, 1) := by decide +kernel
theorem dX2_addRowOf_67 : decode cX2_addRowOf 67 = .ok (.getfield 89, 3) := by decide +kernel
theorem dX2_addRowOf_70 : decode cX2_addRowOf 70 = .ok (.getfield 93, 3) := by decide +kernel
theorem dX2_addRowOf_73 : decode cX2_addRowOf 73 = .ok (.iastore, 1) := by decide +kernel
theorem dX2_addRowOf_74 : decode cX2_addRowOf 74 = .ok (.aload_n 0, 1) := by decide +kernel
theorem dX2_addRowOf_75 : decode cX2_addRowOf 75 = .ok (.getfield 24, 3) := by decide +kernel
theorem dX2_addRowOf_78 : decode cX2_addRowOf 78 = .ok (.iload_n 2, 1) := by decide +kernel
theorem dX2_addRowOf_79 : decode cX2_addRowOf 79 = .ok (.aload_n 1, 1) := by decide +kernel
theorem dX2_addRowOf_80 : decode cX2_addRowOf 80 = .ok (.getfield 97, 3) := by decide +kernel
theorem dX2_addRowOf_83 : decode cX2_addRowOf 83 = .ok (.iastore, 1) := by decide +kernel
theorem dX2_addRowOf_84 : decode cX2_addRowOf 84 = .ok (.aload_n 0, 1) := by decide +kernel
theorem dX2_addRowOf_85 : decode cX2_addRowOf 85 = .ok (.getfield 27, 3) := by decide +kernel
theorem dX2_addRowOf_88 : decode cX2_addRowOf 88 = .ok (.iload_n 2, 1) := by decide +kernel
theorem dX2_addRowOf_89 : decode cX2_addRowOf 89 = .ok (.aload_n 1, 1) := by decide +kernel
theorem dX2_addRowOf_90 : decode cX2_addRowOf 90 = .ok (.getfield 99, 3) := by decide +kernel
theorem dX2_addRowOf_93 : decode cX2_addRowOf 93 = .ok (.iconst 0, 1) := by decide +kernel
theorem dX2_addRowOf_94 : decode cX2_addRowOf 94 = .ok (.iaload, 1) := by decide +kernel
theorem dX2_addRowOf_95 : decode cX2_addRowOf 95 = .ok (.iastore, 1) := by decide +kernel
theorem dX2_addRowOf_96 : decode cX2_addRowOf 96 = .ok (.aload_n 0, 1) := by decide +kernel
theorem dX2_addRowOf_97 : decode cX2_addRowOf 97 = .ok (.getfield 30, 3) := by decide +kernel
theorem dX2_addRowOf_100 : decode cX2_addRowOf 100 = .ok (.iload_n 2, 1) := by decide +kernel
theorem dX2_addRowOf_101 : decode cX2_addRowOf 101 = .ok (.aload_n 1, 1) := by decide +kernel
theorem dX2_addRowOf_102 : decode cX2_addRowOf 102 = .ok (.getfield 99, 3) := by decide +kernel
theorem dX2_addRowOf_105 : decode cX2_addRowOf 105 = .ok (.iconst 1, 1) := by decide +kernel
theorem dX2_addRowOf_106 : decode cX2_addRowOf 106 = .ok (.iaload, 1) := by decide +kernel
theorem dX2_addRowOf_107 : decode cX2_addRowOf 107 = .ok (.iastore, 1) := by decide +kernel
theorem dX2_addRowOf_108 : decode cX2_addRowOf 108 = .ok (.aload_n 0, 1) := by decide +kernel
theorem dX2_addRowOf_109 : decode cX2_addRowOf 109 = .ok (.getfield 33, 3) := by decide +kernel
theorem dX2_addRowOf_112 : decode cX2_addRowOf 112 = .ok (.bipush 20, 2) := by decide +kernel
theorem dX2_addRowOf_114 : decode cX2_addRowOf 114 = .ok (.if_icmp .ge 13, 3) := by decide +kernel
theorem dX2_addRowOf_117 : decode cX2_addRowOf 117 = .ok (.aload_n 0, 1) := by decide +kernel
theorem dX2_addRowOf_118 : decode cX2_addRowOf 118 = .ok (.dup, 1) := by decide +kernel
theorem dX2_addRowOf_119 : decode cX2_addRowOf 119 = .ok (.getfield 33, 3) := by decide +kernel
theorem dX2_addRowOf_122 : decode cX2_addRowOf 122 = .ok (.iconst 1, 1) := by decide +kernel
theorem dX2_addRowOf_123 : decode cX2_addRowOf 123 = .ok (.iadd, 1) := by decide +kernel
theorem dX2_addRowOf_124 : decode cX2_addRowOf 124 = .ok (.putfield 33, 3) := by decide +kernel
theorem dX2_addRowOf_127 : decode cX2_addRowOf 127 = .ok (.return_, 1) := by decide +kernel
theorem dX2_takeRowBack_0 : decode cX2_takeRowBack 0 = .ok (.aload_n 0, 1) := by decide +kernel
theorem dX2_takeRowBack_1 : decode cX2_takeRowBack 1 = .ok (.iconst 0, 1) := by decide +kernel
theorem dX2_takeRowBack_2 : decode cX2_takeRowBack 2 = .ok (.invokevirtual 46, 3) := by decide +kernel
theorem dX2_takeRowBack_5 : decode cX2_takeRowBack 5 = .ok (.istore_n 2, 1) := by decide +kernel
theorem dX2_takeRowBack_6 : decode cX2_takeRowBack 6 = .ok (.aload_n 1, 1) := by decide +kernel
theorem dX2_takeRowBack_7 : decode cX2_takeRowBack 7 = .ok (.aload_n 0, 1) := by decide +kernel
theorem dX2_takeRowBack_8 : decode cX2_takeRowBack 8 = .ok (.getfield 18, 3) := by decide +kernel
theorem dX2_takeRowBack_11 : decode cX2_takeRowBack 11 = .ok (.iload_n 2, 1) := by decide +kernel
theorem dX2_takeRowBack_12 : decode cX2_takeRowBack 12 = .ok (.iaload, 1) := by decide +kernel
theorem dX2_takeRowBack_13 : decode cX2_takeRowBack 13 = .ok (.iconst 1, 1) := by decide +kernel
theorem dX2_takeRowBack_14 : decode cX2_takeRowBack 14 = .ok (.invokevirtual 102, 3) := by decide +kernel
theorem dX2_takeRowBack_17 : decode cX2_takeRowBack 17 = .ok (.aload_n 1, 1) := by decide +kernel
theorem dX2_takeRowBack_18 : decode cX2_takeRowBack 18 = .ok (.aload_n 0, 1) := by decide +kernel
theorem dX2_takeRowBack_19 : decode cX2_takeRowBack 19 = .ok (.getfield 27, 3) := by decide +kernel
theorem dX2_takeRowBack_22 : decode cX2_takeRowBack 22 = .ok (.iload_n 2, 1) := by decide +kernel
theorem dX2_takeRowBack_23 : decode cX2_takeRowBack 23 = .ok (.iaload, 1) := by decide +kernel
theorem dX2_takeRowBack_24 : decode cX2_takeRowBack 24 = .ok (.aload_n 0, 1) := by decide +kernel
theorem dX2_takeRowBack_25 : decode cX2_takeRowBack 25 = .ok (.getfield 30, 3) := by decide +kernel
theorem dX2_takeRowBack_28 : decode cX2_takeRowBack 28 = .ok (.iload_n 2, 1) := by decide +kernel
theorem dX2_takeRowBack_29 : decode cX2_takeRowBack 29 = .ok (.iaload, 1) := by decide +kernel
theorem dX2_takeRowBack_30 : decode cX2_takeRowBack 30 = .ok (.invokevirtual 106, 3) := by decide +kernel
theorem dX2_takeRowBack_33 : decode cX2_takeRowBack 33 = .ok (.aload_n 1, 1) := by decide +kernel
theorem dX2_takeRowBack_34 : decode cX2_takeRowBack 34 = .ok (.aload_n 0, 1) := by decide +kernel
theorem dX2_takeRowBack_35 : decode cX2_takeRowBack 35 = .ok (.getfield 24, 3) := by decide +kernel
theorem dX2_takeRowBack_38 : decode cX2_takeRowBack 38 = .ok (.iload_n 2, 1) := by decide +kernel
theorem dX2_takeRowBack_39 : decode cX2_takeRowBack 39 = .ok (.iaload, 1) := by decide +kernel
theorem dX2_takeRowBack_40 : decode cX2_takeRowBack 40 = .ok (.putfield 97, 3) := by decide +kernel
theorem dX2_takeRowBack_43 : decode cX2_takeRowBack 43 = .ok (.aload_n 1, 1) := by decide +kernel
theorem dX2_takeRowBack_44 : decode cX2_takeRowBack 44 = .ok (.getfield 89, 3) := by decide +kernel
theorem dX2_takeRowBack_47 : decode cX2_takeRowBack 47 = .ok (.aload_n 0, 1) := by decide +kernel
theorem dX2_takeRowBack_48 : decode cX2_takeRowBack 48 = .ok (.getfield 21, 3) := by decide +kernel
theorem dX2_takeRowBack_51 : decode cX2_takeRowBack 51 = .ok (.iload_n 2, 1) := by decide +kernel
theorem dX2_takeRowBack_52 : decode cX2_takeRowBack 52 = .ok (.iaload, 1) := by decide +kernel
theorem dX2_takeRowBack_53 : decode cX2_takeRowBack 53 = .ok (.putfield 93, 3) := by decide +kernel
theorem dX2_takeRowBack_56 : decode cX2_takeRowBack 56 = .ok (.aload_n 0, 1) := by decide +kernel
theorem dX2_takeRowBack_57 : decode cX2_takeRowBack 57 = .ok (.aload_n 0, 1) := by decide +kernel
theorem dX2_takeRowBack_58 : decode cX2_takeRowBack 58 = .ok (.iconst 1, 1) := by decide +kernel
theorem dX2_takeRowBack_59 : decode cX2_takeRowBack 59 = .ok (.invokevirtual 46, 3) := by decide +kernel
theorem dX2_takeRowBack_62 : decode cX2_takeRowBack 62 = .ok (.putfield 37, 3) := by decide +kernel
theorem dX2_takeRowBack_65 : decode cX2_takeRowBack 65 = .ok (.aload_n 0, 1) := by decide +kernel
theorem dX2_takeRowBack_66 : decode cX2_takeRowBack 66 = .ok (.dup, 1) := by decide +kernel
theorem dX2_takeRowBack_67 : decode cX2_takeRowBack 67 = .ok (.getfield 33, 3) := by decide +kernel
theorem dX2_takeRowBack_70 : decode cX2_takeRowBack 70 = .ok (.iconst 1, 1) := by decide +kernel
theorem dX2_takeRowBack_71 : decode cX2_takeRowBack 71 = .ok (.isub, 1) := by decide +kernel
theorem dX2_takeRowBack_72 : decode cX2_takeRowBack 72 = .ok (.putfield 33, 3) := by decide +kernel
theorem dX2_takeRowBack_75 : decode cX2_takeRowBack 75 = .ok (.return_, 1) := by decide +kernel
theorem dX2_slotOf_0 : decode cX2_slotOf 0 = .ok (.aload_n 0, 1) := by decide +kernel
theorem dX2_slotOf_1 : decode cX2_slotOf 1 = .ok (.getfield 37, 3) := by decide +kernel
theorem dX2_slotOf_4 : decode cX2_slotOf 4 = .ok (.iload_n 1, 1) := by decide +kernel
theorem dX2_slotOf_5 : decode cX2_slotOf 5 = .ok (.isub, 1) := by decide +kernel
theorem dX2_slotOf_6 : decode cX2_slotOf 6 = .ok (.bipush 20, 2) := by decide +kernel
theorem dX2_slotOf_8 : decode cX2_slotOf 8 = .ok (.invokestatic 109, 3) := by decide +kernel
theorem dX2_slotOf_11 : decode cX2_slotOf 11 = .ok (.ireturn, 1) := by decide +kernel
end
section
theorem dX3_init_0 : decode cX3_init 0 = .ok (.aload_n 0, 1) := by decide +kernel
theorem dX3_init_1 : decode cX3_init 1 = .ok (.invokespecial 3, 3) := by decide +kernel
theorem dX3_init_4 : decode cX3_init 4 = .ok (.aload_n 0, 1) := by decide +kernel
theorem dX3_init_5 : decode cX3_init 5 = .ok (.new 9, 3) := by decide +kernel
theorem dX3_init_8 : decode cX3_init 8 = .ok (.dup, 1) := by decide +kernel
theorem dX3_init_9 : decode cX3_init 9 = .ok (.invokespecial 11, 3) := by decide +kernel
theorem dX3_init_12 : decode cX3_init 12 = .ok (.putfield 12, 3) := by decide +kernel
theorem dX3_init_15 : decode cX3_init 15 = .ok (.aload_n 0, 1) := by decide +kernel
theorem dX3_init_16 : decode cX3_init 16 = .ok (.new 18, 3) := by decide +kernel
theorem dX3_init_19 : decode cX3_init 19 = .ok (.dup, 1) := by decide +kernel
theorem dX3_init_20 : decode cX3_init 20 = .ok (.invokespecial 20, 3) := by decide +kernel
theorem dX3_init_23 : decode cX3_init 23 = .ok (.putfield 21, 3) := by decide +kernel
theorem dX3_init_26 : decode cX3_init 26 = .ok (.aload_n 0, 1) := by decide +kernel
theorem dX3_init_27 : decode cX3_init 27 = .ok (.new 25, 3) := by decide +kernel
theorem dX3_init_30 : decode cX3_init 30 = .ok (.dup, 1) := by decide +kernel
theorem dX3_init_31 : decode cX3_init 31 = .ok (.invokespecial 27, 3) := by decide +kernel
theorem dX3_init_34 : decode cX3_init 34 = .ok (.putfield 28, 3) := by decide +kernel
theorem dX3_init_37 : decode cX3_init 37 = .ok (.aload_n 0, 1) := by decide +kernel
theorem dX3_init_38 : decode cX3_init 38 = .ok (.iconst 2, 1) := by decide +kernel
theorem dX3_init_39 : decode cX3_init 39 = .ok (.newarray .int, 2) := by decide +kernel
theorem dX3_init_41 : decode cX3_init 41 = .ok (.putfield 32, 3) := by decide +kernel
theorem dX3_init_44 : decode cX3_init 44 = .ok (.aload_n 0, 1) := by decide +kernel
theorem dX3_init_45 : decode cX3_init 45 = .ok (.iconst 1, 1) := by decide +kernel
theorem dX3_init_46 : decode cX3_init 46 = .ok (.putfield 36, 3) := by decide +kernel
theorem dX3_init_49 : decode cX3_init 49 = .ok (.aload_n 0, 1) := by decide +kernel
theorem dX3_init_50 : decode cX3_init 50 = .ok (.iconst 0, 1) := by decide +kernel
theorem dX3_init_51 : decode cX3_init 51 = .ok (.putfield 40, 3) := by decide +kernel
theorem dX3_init_54 : decode cX3_init 54 = .ok (.return_, 1) := by decide +kernel
theorem dX3_copyFrom_0 : decode cX3_copyFrom 0 = .ok (.aload_n 0, 1) := by decide +kernel
theorem dX3_copyFrom_1 : decode cX3_copyFrom 1 = .ok (.getfield 12, 3) := by decide +kernel
theorem dX3_copyFrom_4 : decode cX3_copyFrom 4 = .ok (.aload_n 1, 1) := by decide +kernel
theorem dX3_copyFrom_5 : decode cX3_copyFrom 5 = .ok (.getfield 12, 3) := by decide +kernel
theorem dX3_copyFrom_8 : decode cX3_copyFrom 8 = .ok (.invokevirtual 43, 3) := by decide +kernel
theorem dX3_copyFrom_11 : decode cX3_copyFrom 11 = .ok (.aload_n 0, 1) := by decide +kernel
theorem dX3_copyFrom_12 : decode cX3_copyFrom 12 = .ok (.getfield 21, 3) := by decide +kernel
theorem dX3_copyFrom_15 : decode cX3_copyFrom 15 = .ok (.aload_n 1, 1) := by decide +kernel
theorem dX3_copyFrom_16 : decode cX3_copyFrom 16 = .ok (.getfield 21, 3) := by decide +kernel
theorem dX3_copyFrom_19 : decode cX3_copyFrom 19 = .ok (.invokevirtual 47, 3) := by decide +kernel
theorem dX3_copyFrom_22 : decode cX3_copyFrom 22 = .ok (.aload_n 0, 1) := by decide +kernel
theorem dX3_copyFrom_23 : decode cX3_copyFrom 23 = .ok (.getfield 28, 3) := by decide +kernel
theorem dX3_copyFrom_26 : decode cX3_copyFrom 26 = .ok (.aload_n 1, 1) := by decide +kernel
theorem dX3_copyFrom_27 : decode cX3_copyFrom 27 = .ok (.getfield 28, 3) := by decide +kernel
theorem dX3_copyFrom_30 : decode cX3_copyFrom 30 = .ok (.invokevirtual 50, 3) := by decide +kernel
theorem dX3_copyFrom_33 : decode cX3_copyFrom 33 = .ok (.aload_n 1, 1) := by decide +kernel
theorem dX3_copyFrom_34 : decode cX3_copyFrom 34 = .ok (.getfield 32, 3) := by decide +kernel
theorem dX3_copyFrom_37 : decode cX3_copyFrom 37 = .ok (.iconst 0, 1) := by decide +kernel
theorem dX3_copyFrom_38 : decode cX3_copyFrom 38 = .ok (.aload_n 0, 1) := by decide +kernel
theorem dX3_copyFrom_39 : decode cX3_copyFrom 39 = .ok (.getfield 32, 3) := by decide +kernel
theorem dX3_copyFrom_42 : decode cX3_copyFrom 42 = .ok (.iconst 0, 1) := by decide +kernel
theorem dX3_copyFrom_43 : decode cX3_copyFrom 43 = .ok (.iconst 2, 1) := by decide +kernel
theorem dX3_copyFrom_44 : decode cX3_copyFrom 44 = .ok (.invokestatic 53, 3) := by decide +kernel
theorem dX3_copyFrom_47 : decode cX3_copyFrom 47 = .ok (.aload_n 0, 1) := by decide +kernel
theorem dX3_copyFrom_48 : decode cX3_copyFrom 48 = .ok (.aload_n 1, 1) := by decide +kernel
theorem dX3_copyFrom_49 : decode cX3_copyFrom 49 = .ok (.getfield 36, 3) := by decide +kernel
theorem dX3_copyFrom_52 : decode cX3_copyFrom 52 = .ok (.putfield 36, 3) := by decide +kernel
theorem dX3_copyFrom_55 : decode cX3_copyFrom 55 = .ok (.aload_n 0, 1) := by decide +kernel
theorem dX3_copyFrom_56 : decode cX3_copyFrom 56 = .ok (.aload_n 1, 1) := by decide +kernel
theorem dX3_copyFrom_57 : decode cX3_copyFrom 57 = .ok (.getfield 40, 3) := by decide +kernel
theorem dX3_copyFrom_60 : decode cX3_copyFrom 60 = .ok (.putfield 40, 3) := by decide +kernel
theorem dX3_copyFrom_63 : decode cX3_copyFrom 63 = .ok (.return_, 1) := by decide +kernel
theorem dX3_reasonToStop_0 : decode cX3_reasonToStop 0 = .ok (.aload_n 0, 1) := by decide +kernel
theorem dX3_reasonToStop_1 : decode cX3_reasonToStop 1 = .ok (.getfield 28, 3) := by decide +kernel
theorem dX3_reasonToStop_4 : decode cX3_reasonToStop 4 = .ok (.aload_n 0, 1) := by decide +kernel
theorem dX3_reasonToStop_5 : decode cX3_reasonToStop 5 = .ok (.getfield 28, 3) := by decide +kernel
theorem dX3_reasonToStop_8 : decode cX3_reasonToStop 8 = .ok (.getfield 59, 3) := by decide +kernel
theorem dX3_reasonToStop_11 : decode cX3_reasonToStop 11 = .ok (.invokevirtual 62, 3) := by decide +kernel
theorem dX3_reasonToStop_14 : decode cX3_reasonToStop 14 = .ok (.ifCond .ne 5, 3) := by decide +kernel
theorem dX3_reasonToStop_17 : decode cX3_reasonToStop 17 = .ok (.iconst 1, 1) := by decide +kernel
theorem dX3_reasonToStop_18 : decode cX3_reasonToStop 18 = .ok (.ireturn, 1) := by decide +kernel
theorem dX3_reasonToStop_19 : decode cX3_reasonToStop 19 = .ok (.aload_n 0, 1) := by decide +kernel
theorem dX3_reasonToStop_20 : decode cX3_reasonToStop 20 = .ok (.getfield 21, 3) := by decide +kernel
theorem dX3_reasonToStop_23 : decode cX3_reasonToStop 23 = .ok (.invokevirtual 66, 3) := by decide +kernel
theorem dX3_reasonToStop_26 : decode cX3_reasonToStop 26 = .ok (.bipush (-6), 2) := by decide +kernel
theorem dX3_reasonToStop_28 : decode cX3_reasonToStop 28 = .ok (.if_icmp .eq 5, 3) := by decide +kernel
theorem dX3_reasonToStop_31 : decode cX3_reasonToStop 31 = .ok (.iconst 2, 1) := by decide +kernel
theorem dX3_reasonToStop_32 : decode cX3_reasonToStop 32 = .ok (.ireturn, 1) := by decide +kernel
theorem dX3_reasonToStop_33 : decode cX3_reasonToStop 33 = .ok (.aload_n 0, 1) := by decide +kernel
theorem dX3_reasonToStop_34 : decode cX3_reasonToStop 34 = .ok (.invokevirtual 70, 3) := by decide +kernel
theorem dX3_reasonToStop_37 : decode cX3_reasonToStop 37 = .ok (.bipush (-6), 2) := by decide +kernel
theorem dX3_reasonToStop_39 : decode cX3_reasonToStop 39 = .ok (.if_icmp .eq 5, 3) := by decide +kernel
theorem dX3_reasonToStop_42 : decode cX3_reasonToStop 42 = .ok (.iconst 3, 1) := by decide +kernel
theorem dX3_reasonToStop_43 : decode cX3_reasonToStop 43 = .ok (.ireturn, 1) := by decide +kernel
theorem dX3_reasonToStop_44 : decode cX3_reasonToStop 44 = .ok (.aload_n 0, 1) := by decide +kernel
theorem dX3_reasonToStop_45 : decode cX3_reasonToStop 45 = .ok (.invokevirtual 73, 3) := by decide +kernel
theorem dX3_reasonToStop_48 : decode cX3_reasonToStop 48 = .ok (.ireturn, 1) := by decide +kernel
theorem dX3_reasonOfCardOrShuttle_0 : decode cX3_reasonOfCardOrShuttle 0 = .ok (.aload_n 0, 1) := by decide +kernel
theorem dX3_reasonOfCardOrShuttle_1 : decode cX3_reasonOfCardOrShuttle 1 = .ok (.getfield 28, 3) := by decide +kernel
theorem dX3_reasonOfCardOrShuttle_4 : decode cX3_reasonOfCardOrShuttle 4 = .ok (.aload_n 0, 1) := by decide +kernel
theorem dX3_reasonOfCardOrShuttle_5 : decode cX3_reasonOfCardOrShuttle 5 = .ok (.getfield 28, 3) := by decide +kernel
theorem dX3_reasonOfCardOrShuttle_8 : decode cX3_reasonOfCardOrShuttle 8 = .ok (.getfield 59, 3) := by decide +kernel
theorem dX3_reasonOfCardOrShuttle_11 : decode cX3_reasonOfCardOrShuttle 11 = .ok (.invokevirtual 62, 3) := by decide +kernel
theorem dX3_reasonOfCardOrShuttle_14 : decode cX3_reasonOfCardOrShuttle 14 = .ok (.ifCond .ne 5, 3) := by decide +kernel
theorem dX3_reasonOfCardOrShuttle_17 : decode cX3_reasonOfCardOrShuttle 17 = .ok (.iconst 1, 1) := by decide +kernel
theorem dX3_reasonOfCardOrShuttle_18 : decode cX3_reasonOfCardOrShuttle 18 = .ok (.ireturn, 1) := by decide +kernel
theorem dX3_reasonOfCardOrShuttle_19 : decode cX3_reasonOfCardOrShuttle 19 = .ok (.aload_n 0, 1) := by decide +kernel
theorem dX3_reasonOfCardOrShuttle_20 : decode cX3_reasonOfCardOrShuttle 20 = .ok (.iconst 0, 1) := by decide +kernel
theorem dX3_reasonOfCardOrShuttle_21 : decode cX3_reasonOfCardOrShuttle 21 = .ok (.invokevirtual 76, 3) := by decide +kernel
theorem dX3_reasonOfCardOrShuttle_24 : decode cX3_reasonOfCardOrShuttle 24 = .ok (.istore_n 1, 1) := by decide +kernel
theorem dX3_reasonOfCardOrShuttle_25 : decode cX3_reasonOfCardOrShuttle 25 = .ok (.aload_n 0, 1) := by decide +kernel
theorem dX3_reasonOfCardOrShuttle_26 : decode cX3_reasonOfCardOrShuttle 26 = .ok (.iconst 1, 1) := by decide +kernel
theorem dX3_reasonOfCardOrShuttle_27 : decode cX3_reasonOfCardOrShuttle 27 = .ok (.invokevirtual 76, 3) := by decide +kernel
theorem dX3_reasonOfCardOrShuttle_30 : decode cX3_reasonOfCardOrShuttle 30 = .ok (.istore_n 2, 1) := by decide +kernel
theorem dX3_reasonOfCardOrShuttle_31 : decode cX3_reasonOfCardOrShuttle 31 = .ok (.iload_n 1, 1) := by decide +kernel
theorem dX3_reasonOfCardOrShuttle_32 : decode cX3_reasonOfCardOrShuttle 32 = .ok (.bipush (-6), 2) := by decide +kernel
theorem dX3_reasonOfCardOrShuttle_34 : decode cX3_reasonOfCardOrShuttle 34 = .ok (.if_icmp .eq 11, 3) := by decide +kernel
theorem dX3_reasonOfCardOrShuttle_37 : decode cX3_reasonOfCardOrShuttle 37 = .ok (.iload_n 2, 1) := by decide +kernel
theorem dX3_reasonOfCardOrShuttle_38 : decode cX3_reasonOfCardOrShuttle 38 = .ok (.bipush (-6), 2) := by decide +kernel
theorem dX3_reasonOfCardOrShuttle_40 : decode cX3_reasonOfCardOrShuttle 40 = .ok (.if_icmp .eq 5, 3) := by decide +kernel
theorem dX3_reasonOfCardOrShuttle_43 : decode cX3_reasonOfCardOrShuttle 43 = .ok (.iconst 4, 1) := by decide +kernel
theorem dX3_reasonOfCardOrShuttle_44 : decode cX3_reasonOfCardOrShuttle 44 = .ok (.ireturn, 1) := by decide +kernel
theorem dX3_reasonOfCardOrShuttle_45 : decode cX3_reasonOfCardOrShuttle 45 = .ok (.iload_n 1, 1) := by decide +kernel
theorem dX3_reasonOfCardOrShuttle_46 : decode cX3_reasonOfCardOrShuttle 46 = .ok (.bipush (-6), 2) := by decide +kernel
theorem dX3_reasonOfCardOrShuttle_48 : decode cX3_reasonOfCardOrShuttle 48 = .ok (.if_icmp .ne 11, 3) := by decide +kernel
theorem dX3_reasonOfCardOrShuttle_51 : decode cX3_reasonOfCardOrShuttle 51 = .ok (.iload_n 2, 1) := by decide +kernel
theorem dX3_reasonOfCardOrShuttle_52 : decode cX3_reasonOfCardOrShuttle 52 = .ok (.bipush (-6), 2) := by decide +kernel
theorem dX3_reasonOfCardOrShuttle_54 : decode cX3_reasonOfCardOrShuttle 54 = .ok (.if_icmp .ne 5, 3) := by decide +kernel
theorem dX3_reasonOfCardOrShuttle_57 : decode cX3_reasonOfCardOrShuttle 57 = .ok (.iconst 5, 1) := by decide +kernel
theorem dX3_reasonOfCardOrShuttle_58 : decode cX3_reasonOfCardOrShuttle 58 = .ok (.ireturn, 1) := by decide +kernel
theorem dX3_reasonOfCardOrShuttle_59 : decode cX3_reasonOfCardOrShuttle 59 = .ok (.aload_n 0, 1) := by decide +kernel
theorem dX3_reasonOfCardOrShuttle_60 : decode cX3_reasonOfCardOrShuttle 60 = .ok (.getfield 12, 3) := by decide +kernel
theorem dX3_reasonOfCardOrShuttle_63 : decode cX3_reasonOfCardOrShuttle 63 = .ok (.iload_n 1, 1) := by decide +kernel
theorem dX3_reasonOfCardOrShuttle_64 : decode cX3_reasonOfCardOrShuttle 64 = .ok (.bipush (-6), 2) := by decide +kernel
theorem dX3_reasonOfCardOrShuttle_66 : decode cX3_reasonOfCardOrShuttle 66 = .ok (.if_icmp .eq 7, 3) := by decide +kernel
theorem dX3_reasonOfCardOrShuttle_69 : decode cX3_reasonOfCardOrShuttle 69 = .ok (.iload_n 1, 1) := by decide +kernel
theorem dX3_reasonOfCardOrShuttle_70 : decode cX3_reasonOfCardOrShuttle 70 = .ok (.goto 4, 3) := by decide +kernel
theorem dX3_reasonOfCardOrShuttle_73 : decode cX3_reasonOfCardOrShuttle 73 = .ok (.iload_n 2, 1) := by decide +kernel
theorem dX3_reasonOfCardOrShuttle_74 : decode cX3_reasonOfCardOrShuttle 74 = .ok (.invokevirtual 80, 3) := by decide +kernel
theorem dX3_reasonOfCardOrShuttle_77 : decode cX3_reasonOfCardOrShuttle 77 = .ok (.ifCond .eq 7, 3) := by decide +kernel
theorem dX3_reasonOfCardOrShuttle_80 : decode cX3_reasonOfCardOrShuttle 80 = .ok (.iconst 0, 1) := by decide +kernel
theorem dX3_reasonOfCardOrShuttle_81 : decode cX3_reasonOfCardOrShuttle 81 = .ok (.goto 5, 3) := by decide +kernel
theorem dX3_reasonOfCardOrShuttle_84 : decode cX3_reasonOfCardOrShuttle 84 = .ok (.bipush 6, 2) := by decide +kernel
theorem dX3_reasonOfCardOrShuttle_86 : decode cX3_reasonOfCardOrShuttle 86 = .ok (.ireturn, 1) := by decide +kernel
theorem dX3_numberTold_0 : decode cX3_numberTold 0 = .ok (.iload_n 1, 1) := by decide +kernel
theorem dX3_numberTold_1 : decode cX3_numberTold 1 = .ok (.tableswitch 59 2 6 #[35, 43, 48, 59, 54], 35) := by decide +kernel
theorem dX3_numberTold_36 : decode cX3_numberTold 36 = .ok (.aload_n 0, 1) := by decide +kernel
theorem dX3_numberTold_37 : decode cX3_numberTold 37 = .ok (.getfield 21, 3) := by decide +kernel
theorem dX3_numberTold_40 : decode cX3_numberTold 40 = .ok (.invokevirtual 66, 3) := by decide +kernel
theorem dX3_numberTold_43 : decode cX3_numberTold 43 = .ok (.ireturn, 1) := by decide +kernel
theorem dX3_numberTold_44 : decode cX3_numberTold 44 = .ok (.aload_n 0, 1) := by decide +kernel
theorem dX3_numberTold_45 : decode cX3_numberTold 45 = .ok (.invokevirtual 70, 3) := by decide +kernel
theorem dX3_numberTold_48 : decode cX3_numberTold 48 = .ok (.ireturn, 1) := by decide +kernel
theorem dX3_numberTold_49 : decode cX3_numberTold 49 = .ok (.aload_n 0, 1) := by decide +kernel
theorem dX3_numberTold_50 : decode cX3_numberTold 50 = .ok (.iconst 0, 1) := by decide +kernel
theorem dX3_numberTold_51 : decode cX3_numberTold 51 = .ok (.invokevirtual 76, 3) := by decide +kernel
theorem dX3_numberTold_54 : decode cX3_numberTold 54 = .ok (.ireturn, 1) := by decide +kernel
theorem dX3_numberTold_55 : decode cX3_numberTold 55 = .ok (.aload_n 0, 1) := by decide +kernel
theorem dX3_numberTold_56 : decode cX3_numberTold 56 = .ok (.invokevirtual 83, 3) := by decide +kernel
theorem dX3_numberTold_59 : decode cX3_numberTold 59 = .ok (.ireturn, 1) := by decide +kernel
theorem dX3_numberTold_60 : decode cX3_numberTold 60 = .ok (.bipush (-6), 2) := by decide +kernel
theorem dX3_numberTold_62 : decode cX3_numberTold 62 = .ok (.ireturn, 1) := by decide +kernel
theorem dX3_flyingShuttle_0 : decode cX3_flyingShuttle 0 = .ok (.aload_n 0, 1) := by decide +kernel
theorem dX3_flyingShuttle_1 : decode cX3_flyingShuttle 1 = .ok (.iconst 0, 1) := by decide +kernel
theorem dX3_flyingShuttle_2 : decode cX3_flyingShuttle 2 = .ok (.invokevirtual 76, 3) := by decide +kernel
theorem dX3_flyingShuttle_5 : decode cX3_flyingShuttle 5 = .ok (.istore_n 1, 1) := by decide +kernel
theorem dX3_flyingShuttle_6 : decode cX3_flyingShuttle 6 = .ok (.iload_n 1, 1) := by decide +kernel
theorem dX3_flyingShuttle_7 : decode cX3_flyingShuttle 7 = .ok (.bipush (-6), 2) := by decide +kernel
theorem dX3_flyingShuttle_9 : decode cX3_flyingShuttle 9 = .ok (.if_icmp .eq 7, 3) := by decide +kernel
theorem dX3_flyingShuttle_12 : decode cX3_flyingShuttle 12 = .ok (.iload_n 1, 1) := by decide +kernel
theorem dX3_flyingShuttle_13 : decode cX3_flyingShuttle 13 = .ok (.goto 8, 3) := by decide +kernel
theorem dX3_flyingShuttle_16 : decode cX3_flyingShuttle 16 = .ok (.aload_n 0, 1) := by decide +kernel
theorem dX3_flyingShuttle_17 : decode cX3_flyingShuttle 17 = .ok (.iconst 1, 1) := by decide +kernel
theorem dX3_flyingShuttle_18 : decode cX3_flyingShuttle 18 = .ok (.invokevirtual 76, 3) := by decide +kernel
theorem dX3_flyingShuttle_21 : decode cX3_flyingShuttle 21 = .ok (.ireturn, 1) := by decide +kernel
theorem dX3_frames_0 : decode cX3_frames 0 = .ok (.aload_n 0, 1) := by decide +kernel
theorem dX3_frames_1 : decode cX3_frames 1 = .ok (.getfield 28, 3) := by decide +kernel
theorem dX3_frames_4 : decode cX3_frames 4 = .ok (.aload_n 0, 1) := by decide +kernel
theorem dX3_frames_5 : decode cX3_frames 5 = .ok (.getfield 28, 3) := by decide +kernel
theorem dX3_frames_8 : decode cX3_frames 8 = .ok (.getfield 59, 3) := by decide +kernel
theorem dX3_frames_11 : decode cX3_frames 11 = .ok (.invokevirtual 86, 3) := by decide +kernel
theorem dX3_frames_14 : decode cX3_frames 14 = .ok (.ireturn, 1) := by decide +kernel
theorem dX3_makePick_0 : decode cX3_makePick 0 = .ok (.aload_n 0, 1) := by decide +kernel
theorem dX3_makePick_1 : decode cX3_makePick 1 = .ok (.invokevirtual 83, 3) := by decide +kernel
theorem dX3_makePick_4 : decode cX3_makePick 4 = .ok (.istore_n 1, 1) := by decide +kernel
theorem dX3_makePick_5 : decode cX3_makePick 5 = .ok (.aload_n 0, 1) := by decide +kernel
theorem dX3_makePick_6 : decode cX3_makePick 6 = .ok (.aload_n 0, 1) := by decide +kernel
theorem dX3_makePick_7 : decode cX3_makePick 7 = .ok (.getfield 28, 3) := by decide +kernel
theorem dX3_makePick_10 : decode cX3_makePick 10 = .ok (.aload_n 0, 1) := by decide +kernel
theorem dX3_makePick_11 : decode cX3_makePick 11 = .ok (.getfield 28, 3) := by decide +kernel
theorem dX3_makePick_14 : decode cX3_makePick 14 = .ok (.getfield 59, 3) := by decide +kernel
theorem dX3_makePick_17 : decode cX3_makePick 17 = .ok (.iconst 0, 1) := by decide +kernel
theorem dX3_makePick_18 : decode cX3_makePick 18 = .ok (.invokevirtual 89, 3) := by decide +kernel
theorem dX3_makePick_21 : decode cX3_makePick 21 = .ok (.aload_n 0, 1) := by decide +kernel
theorem dX3_makePick_22 : decode cX3_makePick 22 = .ok (.getfield 28, 3) := by decide +kernel
theorem dX3_makePick_25 : decode cX3_makePick 25 = .ok (.aload_n 0, 1) := by decide +kernel
theorem dX3_makePick_26 : decode cX3_makePick 26 = .ok (.getfield 28, 3) := by decide +kernel
theorem dX3_makePick_29 : decode cX3_makePick 29 = .ok (.getfield 59, 3) := by decide +kernel
theorem dX3_makePick_32 : decode cX3_makePick 32 = .ok (.iconst 1, 1) := by decide +kernel
theorem dX3_makePick_33 : decode cX3_makePick 33 = .ok (.invokevirtual 89, 3) := by decide +kernel
theorem dX3_makePick_36 : decode cX3_makePick 36 = .ok (.invokevirtual 93, 3) := by decide +kernel
theorem dX3_makePick_39 : decode cX3_makePick 39 = .ok (.aload_n 0, 1) := by decide +kernel
theorem dX3_makePick_40 : decode cX3_makePick 40 = .ok (.getfield 21, 3) := by decide +kernel
theorem dX3_makePick_43 : decode cX3_makePick 43 = .ok (.aload_n 0, 1) := by decide +kernel
theorem dX3_makePick_44 : decode cX3_makePick 44 = .ok (.getfield 40, 3) := by decide +kernel
theorem dX3_makePick_47 : decode cX3_makePick 47 = .ok (.aload_n 0, 1) := by decide +kernel
theorem dX3_makePick_48 : decode cX3_makePick 48 = .ok (.invokevirtual 97, 3) := by decide +kernel
theorem dX3_makePick_51 : decode cX3_makePick 51 = .ok (.ixor, 1) := by decide +kernel
theorem dX3_makePick_52 : decode cX3_makePick 52 = .ok (.invokevirtual 100, 3) := by decide +kernel
theorem dX3_makePick_55 : decode cX3_makePick 55 = .ok (.aload_n 0, 1) := by decide +kernel
theorem dX3_makePick_56 : decode cX3_makePick 56 = .ok (.aload_n 0, 1) := by decide +kernel
theorem dX3_makePick_57 : decode cX3_makePick 57 = .ok (.invokevirtual 97, 3) := by decide +kernel
theorem dX3_makePick_60 : decode cX3_makePick 60 = .ok (.putfield 40, 3) := by decide +kernel
theorem dX3_makePick_63 : decode cX3_makePick 63 = .ok (.aload_n 0, 1) := by decide +kernel
theorem dX3_makePick_64 : decode cX3_makePick 64 = .ok (.iload_n 1, 1) := by decide +kernel
theorem dX3_makePick_65 : decode cX3_makePick 65 = .ok (.iconst (-1), 1) := by decide +kernel
theorem dX3_makePick_66 : decode cX3_makePick 66 = .ok (.invokevirtual 104, 3) := by decide +kernel
theorem dX3_makePick_69 : decode cX3_makePick 69 = .ok (.aload_n 0, 1) := by decide +kernel
theorem dX3_makePick_70 : decode cX3_makePick 70 = .ok (.getfield 28, 3) := by decide +kernel
theorem dX3_makePick_73 : decode cX3_makePick 73 = .ok (.invokevirtual 107, 3) := by decide +kernel
theorem dX3_makePick_76 : decode cX3_makePick 76 = .ok (.return_, 1) := by decide +kernel
theorem dX3_fly_0 : decode cX3_fly 0 = .ok (.aload_n 0, 1) := by decide +kernel
theorem dX3_fly_1 : decode cX3_fly 1 = .ok (.getfield 12, 3) := by decide +kernel
theorem dX3_fly_4 : decode cX3_fly 4 = .ok (.iload_n 1, 1) := by decide +kernel
theorem dX3_fly_5 : decode cX3_fly 5 = .ok (.invokevirtual 110, 3) := by decide +kernel
theorem dX3_fly_8 : decode cX3_fly 8 = .ok (.ifCond .eq 7, 3) := by decide +kernel
theorem dX3_fly_11 : decode cX3_fly 11 = .ok (.iconst 1, 1) := by decide +kernel
theorem dX3_fly_12 : decode cX3_fly 12 = .ok (.goto 4, 3) := by decide +kernel
theorem dX3_fly_15 : decode cX3_fly 15 = .ok (.iconst 0, 1) := by decide +kernel
theorem dX3_fly_16 : decode cX3_fly 16 = .ok (.istore_n 3, 1) := by decide +kernel
theorem dX3_fly_17 : decode cX3_fly 17 = .ok (.aload_n 0, 1) := by decide +kernel
theorem dX3_fly_18 : decode cX3_fly 18 = .ok (.getfield 12, 3) := by decide +kernel
theorem dX3_fly_21 : decode cX3_fly 21 = .ok (.iload_n 1, 1) := by decide +kernel
theorem dX3_fly_22 : decode cX3_fly 22 = .ok (.iload_n 3, 1) := by decide +kernel
theorem dX3_fly_23 : decode cX3_fly 23 = .ok (.aload_n 0, 1) := by decide +kernel
theorem dX3_fly_24 : decode cX3_fly 24 = .ok (.getfield 32, 3) := by decide +kernel
theorem dX3_fly_27 : decode cX3_fly 27 = .ok (.iload_n 3, 1) := by decide +kernel
theorem dX3_fly_28 : decode cX3_fly 28 = .ok (.iaload, 1) := by decide +kernel
theorem dX3_fly_29 : decode cX3_fly 29 = .ok (.invokevirtual 113, 3) := by decide +kernel
theorem dX3_fly_32 : decode cX3_fly 32 = .ok (.aload_n 0, 1) := by decide +kernel
theorem dX3_fly_33 : decode cX3_fly 33 = .ok (.getfield 12, 3) := by decide +kernel
theorem dX3_fly_36 : decode cX3_fly 36 = .ok (.iload_n 1, 1) := by decide +kernel
theorem dX3_fly_37 : decode cX3_fly 37 = .ok (.iload_n 2, 1) := by decide +kernel
theorem dX3_fly_38 : decode cX3_fly 38 = .ok (.invokevirtual 116, 3) := by decide +kernel
theorem dX3_fly_41 : decode cX3_fly 41 = .ok (.return_, 1) := by decide +kernel
theorem dX3_moveRaces_0 : decode cX3_moveRaces 0 = .ok (.aload_n 0, 1) := by decide +kernel
theorem dX3_moveRaces_1 : decode cX3_moveRaces 1 = .ok (.getfield 32, 3) := by decide +kernel
theorem dX3_moveRaces_4 : decode cX3_moveRaces 4 = .ok (.iconst 0, 1) := by decide +kernel
theorem dX3_moveRaces_5 : decode cX3_moveRaces 5 = .ok (.iload_n 1, 1) := by decide +kernel
theorem dX3_moveRaces_6 : decode cX3_moveRaces 6 = .ok (.iastore, 1) := by decide +kernel
theorem dX3_moveRaces_7 : decode cX3_moveRaces 7 = .ok (.aload_n 0, 1) := by decide +kernel
theorem dX3_moveRaces_8 : decode cX3_moveRaces 8 = .ok (.getfield 32, 3) := by decide +kernel
theorem dX3_moveRaces_11 : decode cX3_moveRaces 11 = .ok (.iconst 1, 1) := by decide +kernel
theorem dX3_moveRaces_12 : decode cX3_moveRaces 12 = .ok (.iload_n 2, 1) := by decide +kernel
theorem dX3_moveRaces_13 : decode cX3_moveRaces 13 = .ok (.iastore, 1) := by decide +kernel
theorem dX3_moveRaces_14 : decode cX3_moveRaces 14 = .ok (.return_, 1) := by decide +kernel
theorem dX3_shuttleOn_0 : decode cX3_shuttleOn 0 = .ok (.aload_n 0, 1) := by decide +kernel
theorem dX3_shuttleOn_1 : decode cX3_shuttleOn 1 = .ok (.getfield 12, 3) := by decide +kernel
theorem dX3_shuttleOn_4 : decode cX3_shuttleOn 4 = .ok (.iload_n 1, 1) := by decide +kernel
theorem dX3_shuttleOn_5 : decode cX3_shuttleOn 5 = .ok (.aload_n 0, 1) := by decide +kernel
theorem dX3_shuttleOn_6 : decode cX3_shuttleOn 6 = .ok (.getfield 28, 3) := by decide +kernel
theorem dX3_shuttleOn_9 : decode cX3_shuttleOn 9 = .ok (.aload_n 0, 1) := by decide +kernel
theorem dX3_shuttleOn_10 : decode cX3_shuttleOn 10 = .ok (.getfield 28, 3) := by decide +kernel
theorem dX3_shuttleOn_13 : decode cX3_shuttleOn 13 = .ok (.getfield 59, 3) := by decide +kernel
theorem dX3_shuttleOn_16 : decode cX3_shuttleOn 16 = .ok (.iload_n 1, 1) := by decide +kernel
theorem dX3_shuttleOn_17 : decode cX3_shuttleOn 17 = .ok (.invokevirtual 89, 3) := by decide +kernel
theorem dX3_shuttleOn_20 : decode cX3_shuttleOn 20 = .ok (.invokevirtual 119, 3) := by decide +kernel
theorem dX3_shuttleOn_23 : decode cX3_shuttleOn 23 = .ok (.ireturn, 1) := by decide +kernel
theorem dX3_sideTooFar_0 : decode cX3_sideTooFar 0 = .ok (.iconst 0, 1) := by decide +kernel
theorem dX3_sideTooFar_1 : decode cX3_sideTooFar 1 = .ok (.istore_n 1, 1) := by decide +kernel
theorem dX3_sideTooFar_2 : decode cX3_sideTooFar 2 = .ok (.iload_n 1, 1) := by decide +kernel
theorem dX3_sideTooFar_3 : decode cX3_sideTooFar 3 = .ok (.iconst 2, 1) := by decide +kernel
theorem dX3_sideTooFar_4 : decode cX3_sideTooFar 4 = .ok (.if_icmp .ge 47, 3) := by decide +kernel
theorem dX3_sideTooFar_7 : decode cX3_sideTooFar 7 = .ok (.aload_n 0, 1) := by decide +kernel
theorem dX3_sideTooFar_8 : decode cX3_sideTooFar 8 = .ok (.getfield 32, 3) := by decide +kernel
theorem dX3_sideTooFar_11 : decode cX3_sideTooFar 11 = .ok (.iload_n 1, 1) := by decide +kernel
theorem dX3_sideTooFar_12 : decode cX3_sideTooFar 12 = .ok (.iaload, 1) := by decide +kernel
theorem dX3_sideTooFar_13 : decode cX3_sideTooFar 13 = .ok (.aload_n 0, 1) := by decide +kernel
theorem dX3_sideTooFar_14 : decode cX3_sideTooFar 14 = .ok (.getfield 28, 3) := by decide +kernel
theorem dX3_sideTooFar_17 : decode cX3_sideTooFar 17 = .ok (.aload_n 0, 1) := by decide +kernel
theorem dX3_sideTooFar_18 : decode cX3_sideTooFar 18 = .ok (.getfield 28, 3) := by decide +kernel
theorem dX3_sideTooFar_21 : decode cX3_sideTooFar 21 = .ok (.getfield 59, 3) := by decide +kernel
theorem dX3_sideTooFar_24 : decode cX3_sideTooFar 24 = .ok (.iload_n 1, 1) := by decide +kernel
theorem dX3_sideTooFar_25 : decode cX3_sideTooFar 25 = .ok (.invokevirtual 89, 3) := by decide +kernel
theorem dX3_sideTooFar_28 : decode cX3_sideTooFar 28 = .ok (.isub, 1) := by decide +kernel
theorem dX3_sideTooFar_29 : decode cX3_sideTooFar 29 = .ok (.invokestatic 122, 3) := by decide +kernel
theorem dX3_sideTooFar_32 : decode cX3_sideTooFar 32 = .ok (.istore_n 2, 1) := by decide +kernel
theorem dX3_sideTooFar_33 : decode cX3_sideTooFar 33 = .ok (.iload_n 2, 1) := by decide +kernel
theorem dX3_sideTooFar_34 : decode cX3_sideTooFar 34 = .ok (.iconst 4, 1) := by decide +kernel
theorem dX3_sideTooFar_35 : decode cX3_sideTooFar 35 = .ok (.aload_n 0, 1) := by decide +kernel
theorem dX3_sideTooFar_36 : decode cX3_sideTooFar 36 = .ok (.getfield 36, 3) := by decide +kernel
theorem dX3_sideTooFar_39 : decode cX3_sideTooFar 39 = .ok (.isub, 1) := by decide +kernel
theorem dX3_sideTooFar_40 : decode cX3_sideTooFar 40 = .ok (.if_icmp .le 5, 3) := by decide +kernel
theorem dX3_sideTooFar_43 : decode cX3_sideTooFar 43 = .ok (.iload_n 1, 1) := by decide +kernel
theorem dX3_sideTooFar_44 : decode cX3_sideTooFar 44 = .ok (.ireturn, 1) := by decide +kernel
theorem dX3_sideTooFar_45 : decode cX3_sideTooFar 45 = .ok (.iinc 1 1, 3) := by decide +kernel
theorem dX3_sideTooFar_48 : decode cX3_sideTooFar 48 = .ok (.goto (-46), 3) := by decide +kernel
theorem dX3_sideTooFar_51 : decode cX3_sideTooFar 51 = .ok (.bipush (-6), 2) := by decide +kernel
theorem dX3_sideTooFar_53 : decode cX3_sideTooFar 53 = .ok (.ireturn, 1) := by decide +kernel
end
section
theorem dX4_init_0 : decode cX4_init 0 = .ok (.aload_n 0, 1) := by decide +kernel
theorem dX4_init_1 : decode cX4_init 1 = .ok (.invokespecial 3, 3) := by decide +kernel
theorem dX4_init_4 : decode cX4_init 4 = .ok (.aload_n 0, 1) := by decide +kernel
theorem dX4_init_5 : decode cX4_init 5 = .ok (.new 9, 3) := by decide +kernel
theorem dX4_init_8 : decode cX4_init 8 = .ok (.dup, 1) := by decide +kernel
theorem dX4_init_9 : decode cX4_init 9 = .ok (.invokespecial 11, 3) := by decide +kernel
theorem dX4_init_12 : decode cX4_init 12 = .ok (.putfield 12, 3) := by decide +kernel
theorem dX4_init_15 : decode cX4_init 15 = .ok (.aload_n 0, 1) := by decide +kernel
theorem dX4_init_16 : decode cX4_init 16 = .ok (.new 18, 3) := by decide +kernel
theorem dX4_init_19 : decode cX4_init 19 = .ok (.dup, 1) := by decide +kernel
theorem dX4_init_20 : decode cX4_init 20 = .ok (.invokespecial 20, 3) := by decide +kernel
theorem dX4_init_23 : decode cX4_init 23 = .ok (.putfield 21, 3) := by decide +kernel
theorem dX4_init_26 : decode cX4_init 26 = .ok (.aload_n 0, 1) := by decide +kernel
theorem dX4_init_27 : decode cX4_init 27 = .ok (.iconst 0, 1) := by decide +kernel
theorem dX4_init_28 : decode cX4_init 28 = .ok (.putfield 25, 3) := by decide +kernel
theorem dX4_init_31 : decode cX4_init 31 = .ok (.aload_n 0, 1) := by decide +kernel
theorem dX4_init_32 : decode cX4_init 32 = .ok (.iconst 0, 1) := by decide +kernel
theorem dX4_init_33 : decode cX4_init 33 = .ok (.putfield 29, 3) := by decide +kernel
theorem dX4_init_36 : decode cX4_init 36 = .ok (.aload_n 0, 1) := by decide +kernel
theorem dX4_init_37 : decode cX4_init 37 = .ok (.iconst 0, 1) := by decide +kernel
theorem dX4_init_38 : decode cX4_init 38 = .ok (.putfield 32, 3) := by decide +kernel
theorem dX4_init_41 : decode cX4_init 41 = .ok (.aload_n 0, 1) := by decide +kernel
theorem dX4_init_42 : decode cX4_init 42 = .ok (.bipush (-6), 2) := by decide +kernel
theorem dX4_init_44 : decode cX4_init 44 = .ok (.putfield 35, 3) := by decide +kernel
theorem dX4_init_47 : decode cX4_init 47 = .ok (.aload_n 0, 1) := by decide +kernel
theorem dX4_init_48 : decode cX4_init 48 = .ok (.iconst 0, 1) := by decide +kernel
theorem dX4_init_49 : decode cX4_init 49 = .ok (.putfield 38, 3) := by decide +kernel
theorem dX4_init_52 : decode cX4_init 52 = .ok (.return_, 1) := by decide +kernel
theorem dX4_copyFrom_0 : decode cX4_copyFrom 0 = .ok (.aload_n 0, 1) := by decide +kernel
theorem dX4_copyFrom_1 : decode cX4_copyFrom 1 = .ok (.getfield 12, 3) := by decide +kernel
theorem dX4_copyFrom_4 : decode cX4_copyFrom 4 = .ok (.aload_n 1, 1) := by decide +kernel
theorem dX4_copyFrom_5 : decode cX4_copyFrom 5 = .ok (.getfield 12, 3) := by decide +kernel
theorem dX4_copyFrom_8 : decode cX4_copyFrom 8 = .ok (.invokevirtual 41, 3) := by decide +kernel
theorem dX4_copyFrom_11 : decode cX4_copyFrom 11 = .ok (.aload_n 0, 1) := by decide +kernel
theorem dX4_copyFrom_12 : decode cX4_copyFrom 12 = .ok (.getfield 21, 3) := by decide +kernel
theorem dX4_copyFrom_15 : decode cX4_copyFrom 15 = .ok (.aload_n 1, 1) := by decide +kernel
theorem dX4_copyFrom_16 : decode cX4_copyFrom 16 = .ok (.getfield 21, 3) := by decide +kernel
theorem dX4_copyFrom_19 : decode cX4_copyFrom 19 = .ok (.invokevirtual 45, 3) := by decide +kernel
theorem dX4_copyFrom_22 : decode cX4_copyFrom 22 = .ok (.aload_n 0, 1) := by decide +kernel
theorem dX4_copyFrom_23 : decode cX4_copyFrom 23 = .ok (.aload_n 1, 1) := by decide +kernel
theorem dX4_copyFrom_24 : decode cX4_copyFrom 24 = .ok (.getfield 25, 3) := by decide +kernel
theorem dX4_copyFrom_27 : decode cX4_copyFrom 27 = .ok (.putfield 25, 3) := by decide +kernel
theorem dX4_copyFrom_30 : decode cX4_copyFrom 30 = .ok (.aload_n 0, 1) := by decide +kernel
theorem dX4_copyFrom_31 : decode cX4_copyFrom 31 = .ok (.aload_n 1, 1) := by decide +kernel
theorem dX4_copyFrom_32 : decode cX4_copyFrom 32 = .ok (.getfield 29, 3) := by decide +kernel
theorem dX4_copyFrom_35 : decode cX4_copyFrom 35 = .ok (.putfield 29, 3) := by decide +kernel
theorem dX4_copyFrom_38 : decode cX4_copyFrom 38 = .ok (.aload_n 0, 1) := by decide +kernel
theorem dX4_copyFrom_39 : decode cX4_copyFrom 39 = .ok (.aload_n 1, 1) := by decide +kernel
theorem dX4_copyFrom_40 : decode cX4_copyFrom 40 = .ok (.getfield 32, 3) := by decide +kernel
theorem dX4_copyFrom_43 : decode cX4_copyFrom 43 = .ok (.putfield 32, 3) := by decide +kernel
theorem dX4_copyFrom_46 : decode cX4_copyFrom 46 = .ok (.aload_n 0, 1) := by decide +kernel
theorem dX4_copyFrom_47 : decode cX4_copyFrom 47 = .ok (.aload_n 1, 1) := by decide +kernel
theorem dX4_copyFrom_48 : decode cX4_copyFrom 48 = .ok (.getfield 35, 3) := by decide +kernel
theorem dX4_copyFrom_51 : decode cX4_copyFrom 51 = .ok (.putfield 35, 3) := by decide +kernel
theorem dX4_copyFrom_54 : decode cX4_copyFrom 54 = .ok (.aload_n 0, 1) := by decide +kernel
theorem dX4_copyFrom_55 : decode cX4_copyFrom 55 = .ok (.aload_n 1, 1) := by decide +kernel
theorem dX4_copyFrom_56 : decode cX4_copyFrom 56 = .ok (.getfield 38, 3) := by decide +kernel
theorem dX4_copyFrom_59 : decode cX4_copyFrom 59 = .ok (.putfield 38, 3) := by decide +kernel
theorem dX4_copyFrom_62 : decode cX4_copyFrom 62 = .ok (.return_, 1) := by decide +kernel
theorem dX4_makePick_0 : decode cX4_makePick 0 = .ok (.aload_n 0, 1) := by decide +kernel
theorem dX4_makePick_1 : decode cX4_makePick 1 = .ok (.getfield 21, 3) := by decide +kernel
theorem dX4_makePick_4 : decode cX4_makePick 4 = .ok (.aload_n 0, 1) := by decide +kernel
theorem dX4_makePick_5 : decode cX4_makePick 5 = .ok (.getfield 12, 3) := by decide +kernel
theorem dX4_makePick_8 : decode cX4_makePick 8 = .ok (.invokevirtual 48, 3) := by decide +kernel
theorem dX4_makePick_11 : decode cX4_makePick 11 = .ok (.aload_n 0, 1) := by decide +kernel
theorem dX4_makePick_12 : decode cX4_makePick 12 = .ok (.getfield 12, 3) := by decide +kernel
theorem dX4_makePick_15 : decode cX4_makePick 15 = .ok (.invokevirtual 51, 3) := by decide +kernel
theorem dX4_makePick_18 : decode cX4_makePick 18 = .ok (.aload_n 0, 1) := by decide +kernel
theorem dX4_makePick_19 : decode cX4_makePick 19 = .ok (.dup, 1) := by decide +kernel
theorem dX4_makePick_20 : decode cX4_makePick 20 = .ok (.getfield 25, 3) := by decide +kernel
theorem dX4_makePick_23 : decode cX4_makePick 23 = .ok (.iconst 1, 1) := by decide +kernel
theorem dX4_makePick_24 : decode cX4_makePick 24 = .ok (.iadd, 1) := by decide +kernel
theorem dX4_makePick_25 : decode cX4_makePick 25 = .ok (.putfield 25, 3) := by decide +kernel
theorem dX4_makePick_28 : decode cX4_makePick 28 = .ok (.aload_n 0, 1) := by decide +kernel
theorem dX4_makePick_29 : decode cX4_makePick 29 = .ok (.aload_n 0, 1) := by decide +kernel
theorem dX4_makePick_30 : decode cX4_makePick 30 = .ok (.getfield 29, 3) := by decide +kernel
theorem dX4_makePick_33 : decode cX4_makePick 33 = .ok (.iconst 1, 1) := by decide +kernel
theorem dX4_makePick_34 : decode cX4_makePick 34 = .ok (.iadd, 1) := by decide +kernel
theorem dX4_makePick_35 : decode cX4_makePick 35 = .ok (.bipush 20, 2) := by decide +kernel
theorem dX4_makePick_37 : decode cX4_makePick 37 = .ok (.invokestatic 54, 3) := by decide +kernel
theorem dX4_makePick_40 : decode cX4_makePick 40 = .ok (.putfield 29, 3) := by decide +kernel
theorem dX4_makePick_43 : decode cX4_makePick 43 = .ok (.return_, 1) := by decide +kernel
theorem dX4_takePickBack_0 : decode cX4_takePickBack 0 = .ok (.aload_n 0, 1) := by decide +kernel
theorem dX4_takePickBack_1 : decode cX4_takePickBack 1 = .ok (.getfield 21, 3) := by decide +kernel
theorem dX4_takePickBack_4 : decode cX4_takePickBack 4 = .ok (.aload_n 0, 1) := by decide +kernel
theorem dX4_takePickBack_5 : decode cX4_takePickBack 5 = .ok (.getfield 12, 3) := by decide +kernel
theorem dX4_takePickBack_8 : decode cX4_takePickBack 8 = .ok (.invokevirtual 60, 3) := by decide +kernel
theorem dX4_takePickBack_11 : decode cX4_takePickBack 11 = .ok (.aload_n 0, 1) := by decide +kernel
theorem dX4_takePickBack_12 : decode cX4_takePickBack 12 = .ok (.dup, 1) := by decide +kernel
theorem dX4_takePickBack_13 : decode cX4_takePickBack 13 = .ok (.getfield 25, 3) := by decide +kernel
theorem dX4_takePickBack_16 : decode cX4_takePickBack 16 = .ok (.iconst 1, 1) := by decide +kernel
theorem dX4_takePickBack_17 : decode cX4_takePickBack 17 = .ok (.isub, 1) := by decide +kernel
theorem dX4_takePickBack_18 : decode cX4_takePickBack 18 = .ok (.putfield 25, 3) := by decide +kernel
theorem dX4_takePickBack_21 : decode cX4_takePickBack 21 = .ok (.aload_n 0, 1) := by decide +kernel
theorem dX4_takePickBack_22 : decode cX4_takePickBack 22 = .ok (.dup, 1) := by decide +kernel
theorem dX4_takePickBack_23 : decode cX4_takePickBack 23 = .ok (.getfield 29, 3) := by decide +kernel
theorem dX4_takePickBack_26 : decode cX4_takePickBack 26 = .ok (.iconst 1, 1) := by decide +kernel
theorem dX4_takePickBack_27 : decode cX4_takePickBack 27 = .ok (.isub, 1) := by decide +kernel
theorem dX4_takePickBack_28 : decode cX4_takePickBack 28 = .ok (.putfield 29, 3) := by decide +kernel
theorem dX4_takePickBack_31 : decode cX4_takePickBack 31 = .ok (.return_, 1) := by decide +kernel
theorem dX4_noteStop_0 : decode cX4_noteStop 0 = .ok (.aload_n 0, 1) := by decide +kernel
theorem dX4_noteStop_1 : decode cX4_noteStop 1 = .ok (.iload_n 1, 1) := by decide +kernel
theorem dX4_noteStop_2 : decode cX4_noteStop 2 = .ok (.putfield 32, 3) := by decide +kernel
theorem dX4_noteStop_5 : decode cX4_noteStop 5 = .ok (.aload_n 0, 1) := by decide +kernel
theorem dX4_noteStop_6 : decode cX4_noteStop 6 = .ok (.aload_n 0, 1) := by decide +kernel
theorem dX4_noteStop_7 : decode cX4_noteStop 7 = .ok (.getfield 12, 3) := by decide +kernel
theorem dX4_noteStop_10 : decode cX4_noteStop 10 = .ok (.iload_n 1, 1) := by decide +kernel
theorem dX4_noteStop_11 : decode cX4_noteStop 11 = .ok (.invokevirtual 63, 3) := by decide +kernel
theorem dX4_noteStop_14 : decode cX4_noteStop 14 = .ok (.putfield 35, 3) := by decide +kernel
theorem dX4_noteStop_17 : decode cX4_noteStop 17 = .ok (.aload_n 0, 1) := by decide +kernel
theorem dX4_noteStop_18 : decode cX4_noteStop 18 = .ok (.dup, 1) := by decide +kernel
theorem dX4_noteStop_19 : decode cX4_noteStop 19 = .ok (.getfield 38, 3) := by decide +kernel
theorem dX4_noteStop_22 : decode cX4_noteStop 22 = .ok (.iconst 1, 1) := by decide +kernel
theorem dX4_noteStop_23 : decode cX4_noteStop 23 = .ok (.iadd, 1) := by decide +kernel
theorem dX4_noteStop_24 : decode cX4_noteStop 24 = .ok (.putfield 38, 3) := by decide +kernel
theorem dX4_noteStop_27 : decode cX4_noteStop 27 = .ok (.return_, 1) := by decide +kernel
end
section
theorem dX5_init_0 : decode cX5_init 0 = .ok (.aload_n 0, 1) := by decide +kernel
theorem dX5_init_1 : decode cX5_init 1 = .ok (.invokespecial 3, 3) := by decide +kernel
theorem dX5_init_4 : decode cX5_init 4 = .ok (.aload_n 0, 1) := by decide +kernel
theorem dX5_init_5 : decode cX5_init 5 = .ok (.iconst 5, 1) := by decide +kernel
theorem dX5_init_6 : decode cX5_init 6 = .ok (.newarray .int, 2) := by decide +kernel
theorem dX5_init_8 : decode cX5_init 8 = .ok (.putfield 9, 3) := by decide +kernel
theorem dX5_init_11 : decode cX5_init 11 = .ok (.aload_n 0, 1) := by decide +kernel
theorem dX5_init_12 : decode cX5_init 12 = .ok (.iconst 5, 1) := by decide +kernel
theorem dX5_init_13 : decode cX5_init 13 = .ok (.newarray .int, 2) := by decide +kernel
theorem dX5_init_15 : decode cX5_init 15 = .ok (.putfield 15, 3) := by decide +kernel
theorem dX5_init_18 : decode cX5_init 18 = .ok (.aload_n 0, 1) := by decide +kernel
theorem dX5_init_19 : decode cX5_init 19 = .ok (.iconst 5, 1) := by decide +kernel
theorem dX5_init_20 : decode cX5_init 20 = .ok (.newarray .int, 2) := by decide +kernel
theorem dX5_init_22 : decode cX5_init 22 = .ok (.putfield 18, 3) := by decide +kernel
theorem dX5_init_25 : decode cX5_init 25 = .ok (.aload_n 0, 1) := by decide +kernel
theorem dX5_init_26 : decode cX5_init 26 = .ok (.iconst 5, 1) := by decide +kernel
theorem dX5_init_27 : decode cX5_init 27 = .ok (.newarray .int, 2) := by decide +kernel
theorem dX5_init_29 : decode cX5_init 29 = .ok (.putfield 21, 3) := by decide +kernel
theorem dX5_init_32 : decode cX5_init 32 = .ok (.iconst 0, 1) := by decide +kernel
theorem dX5_init_33 : decode cX5_init 33 = .ok (.istore_n 1, 1) := by decide +kernel
theorem dX5_init_34 : decode cX5_init 34 = .ok (.iload_n 1, 1) := by decide +kernel
theorem dX5_init_35 : decode cX5_init 35 = .ok (.iconst 5, 1) := by decide +kernel
theorem dX5_init_36 : decode cX5_init 36 = .ok (.if_icmp .ge 40, 3) := by decide +kernel
theorem dX5_init_39 : decode cX5_init 39 = .ok (.aload_n 0, 1) := by decide +kernel
theorem dX5_init_40 : decode cX5_init 40 = .ok (.getfield 9, 3) := by decide +kernel
theorem dX5_init_43 : decode cX5_init 43 = .ok (.iload_n 1, 1) := by decide +kernel
theorem dX5_init_44 : decode cX5_init 44 = .ok (.iload_n 1, 1) := by decide +kernel
theorem dX5_init_45 : decode cX5_init 45 = .ok (.iastore, 1) := by decide +kernel
theorem dX5_init_46 : decode cX5_init 46 = .ok (.aload_n 0, 1) := by decide +kernel
theorem dX5_init_47 : decode cX5_init 47 = .ok (.getfield 15, 3) := by decide +kernel
theorem dX5_init_50 : decode cX5_init 50 = .ok (.iload_n 1, 1) := by decide +kernel
theorem dX5_init_51 : decode cX5_init 51 = .ok (.bipush 20, 2) := by decide +kernel
theorem dX5_init_53 : decode cX5_init 53 = .ok (.iastore, 1) := by decide +kernel
theorem dX5_init_54 : decode cX5_init 54 = .ok (.aload_n 0, 1) := by decide +kernel
theorem dX5_init_55 : decode cX5_init 55 = .ok (.getfield 18, 3) := by decide +kernel
theorem dX5_init_58 : decode cX5_init 58 = .ok (.iload_n 1, 1) := by decide +kernel
theorem dX5_init_59 : decode cX5_init 59 = .ok (.bipush (-6), 2) := by decide +kernel
theorem dX5_init_61 : decode cX5_init 61 = .ok (.iastore, 1) := by decide +kernel
theorem dX5_init_62 : decode cX5_init 62 = .ok (.aload_n 0, 1) := by decide +kernel
theorem dX5_init_63 : decode cX5_init 63 = .ok (.getfield 21, 3) := by decide +kernel
theorem dX5_init_66 : decode cX5_init 66 = .ok (.iload_n 1, 1) := by decide +kernel
theorem dX5_init_67 : decode cX5_init 67 = .ok (.bipush (-6), 2) := by decide +kernel
theorem dX5_init_69 : decode cX5_init 69 = .ok (.iastore, 1) := by decide +kernel
theorem dX5_init_70 : decode cX5_init 70 = .ok (.iinc 1 1, 3) := by decide +kernel
theorem dX5_init_73 : decode cX5_init 73 = .ok (.goto (-39), 3) := by decide +kernel
theorem dX5_init_76 : decode cX5_init 76 = .ok (.return_, 1) := by decide +kernel
theorem dX5_copyFrom_0 : decode cX5_copyFrom 0 = .ok (.aload_n 1, 1) := by decide +kernel
theorem dX5_copyFrom_1 : decode cX5_copyFrom 1 = .ok (.getfield 9, 3) := by decide +kernel
theorem dX5_copyFrom_4 : decode cX5_copyFrom 4 = .ok (.iconst 0, 1) := by decide +kernel
theorem dX5_copyFrom_5 : decode cX5_copyFrom 5 = .ok (.aload_n 0, 1) := by decide +kernel
theorem dX5_copyFrom_6 : decode cX5_copyFrom 6 = .ok (.getfield 9, 3) := by decide +kernel
theorem dX5_copyFrom_9 : decode cX5_copyFrom 9 = .ok (.iconst 0, 1) := by decide +kernel
theorem dX5_copyFrom_10 : decode cX5_copyFrom 10 = .ok (.iconst 5, 1) := by decide +kernel
theorem dX5_copyFrom_11 : decode cX5_copyFrom 11 = .ok (.invokestatic 24, 3) := by decide +kernel
theorem dX5_copyFrom_14 : decode cX5_copyFrom 14 = .ok (.aload_n 1, 1) := by decide +kernel
theorem dX5_copyFrom_15 : decode cX5_copyFrom 15 = .ok (.getfield 15, 3) := by decide +kernel
theorem dX5_copyFrom_18 : decode cX5_copyFrom 18 = .ok (.iconst 0, 1) := by decide +kernel
theorem dX5_copyFrom_19 : decode cX5_copyFrom 19 = .ok (.aload_n 0, 1) := by decide +kernel
theorem dX5_copyFrom_20 : decode cX5_copyFrom 20 = .ok (.getfield 15, 3) := by decide +kernel
theorem dX5_copyFrom_23 : decode cX5_copyFrom 23 = .ok (.iconst 0, 1) := by decide +kernel
theorem dX5_copyFrom_24 : decode cX5_copyFrom 24 = .ok (.iconst 5, 1) := by decide +kernel
theorem dX5_copyFrom_25 : decode cX5_copyFrom 25 = .ok (.invokestatic 24, 3) := by decide +kernel
theorem dX5_copyFrom_28 : decode cX5_copyFrom 28 = .ok (.aload_n 1, 1) := by decide +kernel
theorem dX5_copyFrom_29 : decode cX5_copyFrom 29 = .ok (.getfield 18, 3) := by decide +kernel
theorem dX5_copyFrom_32 : decode cX5_copyFrom 32 = .ok (.iconst 0, 1) := by decide +kernel
theorem dX5_copyFrom_33 : decode cX5_copyFrom 33 = .ok (.aload_n 0, 1) := by decide +kernel
theorem dX5_copyFrom_34 : decode cX5_copyFrom 34 = .ok (.getfield 18, 3) := by decide +kernel
theorem dX5_copyFrom_37 : decode cX5_copyFrom 37 = .ok (.iconst 0, 1) := by decide +kernel
theorem dX5_copyFrom_38 : decode cX5_copyFrom 38 = .ok (.iconst 5, 1) := by decide +kernel
theorem dX5_copyFrom_39 : decode cX5_copyFrom 39 = .ok (.invokestatic 24, 3) := by decide +kernel
theorem dX5_copyFrom_42 : decode cX5_copyFrom 42 = .ok (.aload_n 1, 1) := by decide +kernel
theorem dX5_copyFrom_43 : decode cX5_copyFrom 43 = .ok (.getfield 21, 3) := by decide +kernel
theorem dX5_copyFrom_46 : decode cX5_copyFrom 46 = .ok (.iconst 0, 1) := by decide +kernel
theorem dX5_copyFrom_47 : decode cX5_copyFrom 47 = .ok (.aload_n 0, 1) := by decide +kernel
theorem dX5_copyFrom_48 : decode cX5_copyFrom 48 = .ok (.getfield 21, 3) := by decide +kernel
theorem dX5_copyFrom_51 : decode cX5_copyFrom 51 = .ok (.iconst 0, 1) := by decide +kernel
theorem dX5_copyFrom_52 : decode cX5_copyFrom 52 = .ok (.iconst 5, 1) := by decide +kernel
theorem dX5_copyFrom_53 : decode cX5_copyFrom 53 = .ok (.invokestatic 24, 3) := by decide +kernel
theorem dX5_copyFrom_56 : decode cX5_copyFrom 56 = .ok (.return_, 1) := by decide +kernel
theorem dX5_isInDrawer_0 : decode cX5_isInDrawer 0 = .ok (.iload_n 1, 1) := by decide +kernel
theorem dX5_isInDrawer_1 : decode cX5_isInDrawer 1 = .ok (.invokestatic 30, 3) := by decide +kernel
theorem dX5_isInDrawer_4 : decode cX5_isInDrawer 4 = .ok (.ifCond .eq 18, 3) := by decide +kernel
theorem dX5_isInDrawer_7 : decode cX5_isInDrawer 7 = .ok (.aload_n 0, 1) := by decide +kernel
theorem dX5_isInDrawer_8 : decode cX5_isInDrawer 8 = .ok (.getfield 18, 3) := by decide +kernel
theorem dX5_isInDrawer_11 : decode cX5_isInDrawer 11 = .ok (.iload_n 1, 1) := by decide +kernel
theorem dX5_isInDrawer_12 : decode cX5_isInDrawer 12 = .ok (.iaload, 1) := by decide +kernel
theorem dX5_isInDrawer_13 : decode cX5_isInDrawer 13 = .ok (.bipush (-6), 2) := by decide +kernel
theorem dX5_isInDrawer_15 : decode cX5_isInDrawer 15 = .ok (.if_icmp .ne 7, 3) := by decide +kernel
theorem dX5_isInDrawer_18 : decode cX5_isInDrawer 18 = .ok (.iconst 1, 1) := by decide +kernel
theorem dX5_isInDrawer_19 : decode cX5_isInDrawer 19 = .ok (.goto 4, 3) := by decide +kernel
theorem dX5_isInDrawer_22 : decode cX5_isInDrawer 22 = .ok (.iconst 0, 1) := by decide +kernel
theorem dX5_isInDrawer_23 : decode cX5_isInDrawer 23 = .ok (.ireturn, 1) := by decide +kernel
theorem dX5_isOnLeft_0 : decode cX5_isOnLeft 0 = .ok (.iload_n 1, 1) := by decide +kernel
theorem dX5_isOnLeft_1 : decode cX5_isOnLeft 1 = .ok (.invokestatic 30, 3) := by decide +kernel
theorem dX5_isOnLeft_4 : decode cX5_isOnLeft 4 = .ok (.ifCond .eq 16, 3) := by decide +kernel
theorem dX5_isOnLeft_7 : decode cX5_isOnLeft 7 = .ok (.aload_n 0, 1) := by decide +kernel
theorem dX5_isOnLeft_8 : decode cX5_isOnLeft 8 = .ok (.getfield 18, 3) := by decide +kernel
theorem dX5_isOnLeft_11 : decode cX5_isOnLeft 11 = .ok (.iload_n 1, 1) := by decide +kernel
theorem dX5_isOnLeft_12 : decode cX5_isOnLeft 12 = .ok (.iaload, 1) := by decide +kernel
theorem dX5_isOnLeft_13 : decode cX5_isOnLeft 13 = .ok (.ifCond .ne 7, 3) := by decide +kernel
theorem dX5_isOnLeft_16 : decode cX5_isOnLeft 16 = .ok (.iconst 1, 1) := by decide +kernel
theorem dX5_isOnLeft_17 : decode cX5_isOnLeft 17 = .ok (.goto 4, 3) := by decide +kernel
theorem dX5_isOnLeft_20 : decode cX5_isOnLeft 20 = .ok (.iconst 0, 1) := by decide +kernel
theorem dX5_isOnLeft_21 : decode cX5_isOnLeft 21 = .ok (.ireturn, 1) := by decide +kernel
theorem dX5_hasYarn_0 : decode cX5_hasYarn 0 = .ok (.iload_n 1, 1) := by decide +kernel
theorem dX5_hasYarn_1 : decode cX5_hasYarn 1 = .ok (.invokestatic 30, 3) := by decide +kernel
theorem dX5_hasYarn_4 : decode cX5_hasYarn 4 = .ok (.ifCond .eq 16, 3) := by decide +kernel
theorem dX5_hasYarn_7 : decode cX5_hasYarn 7 = .ok (.aload_n 0, 1) := by decide +kernel
theorem dX5_hasYarn_8 : decode cX5_hasYarn 8 = .ok (.getfield 15, 3) := by decide +kernel
theorem dX5_hasYarn_11 : decode cX5_hasYarn 11 = .ok (.iload_n 1, 1) := by decide +kernel
theorem dX5_hasYarn_12 : decode cX5_hasYarn 12 = .ok (.iaload, 1) := by decide +kernel
theorem dX5_hasYarn_13 : decode cX5_hasYarn 13 = .ok (.ifCond .le 7, 3) := by decide +kernel
theorem dX5_hasYarn_16 : decode cX5_hasYarn 16 = .ok (.iconst 1, 1) := by decide +kernel
theorem dX5_hasYarn_17 : decode cX5_hasYarn 17 = .ok (.goto 4, 3) := by decide +kernel
theorem dX5_hasYarn_20 : decode cX5_hasYarn 20 = .ok (.iconst 0, 1) := by decide +kernel
theorem dX5_hasYarn_21 : decode cX5_hasYarn 21 = .ok (.ireturn, 1) := by decide +kernel
theorem dX5_colourOf_0 : decode cX5_colourOf 0 = .ok (.iload_n 1, 1) := by decide +kernel
theorem dX5_colourOf_1 : decode cX5_colourOf 1 = .ok (.invokestatic 30, 3) := by decide +kernel
theorem dX5_colourOf_4 : decode cX5_colourOf 4 = .ok (.ifCond .eq 12, 3) := by decide +kernel
theorem dX5_colourOf_7 : decode cX5_colourOf 7 = .ok (.aload_n 0, 1) := by decide +kernel
theorem dX5_colourOf_8 : decode cX5_colourOf 8 = .ok (.getfield 9, 3) := by decide +kernel
theorem dX5_colourOf_11 : decode cX5_colourOf 11 = .ok (.iload_n 1, 1) := by decide +kernel
theorem dX5_colourOf_12 : decode cX5_colourOf 12 = .ok (.iaload, 1) := by decide +kernel
theorem dX5_colourOf_13 : decode cX5_colourOf 13 = .ok (.goto 5, 3) := by decide +kernel
theorem dX5_colourOf_16 : decode cX5_colourOf 16 = .ok (.bipush (-6), 2) := by decide +kernel
theorem dX5_colourOf_18 : decode cX5_colourOf 18 = .ok (.ireturn, 1) := by decide +kernel
theorem dX5_findIn_0 : decode cX5_findIn 0 = .ok (.iconst 0, 1) := by decide +kernel
theorem dX5_findIn_1 : decode cX5_findIn 1 = .ok (.istore_n 3, 1) := by decide +kernel
theorem dX5_findIn_2 : decode cX5_findIn 2 = .ok (.iload_n 3, 1) := by decide +kernel
theorem dX5_findIn_3 : decode cX5_findIn 3 = .ok (.iconst 5, 1) := by decide +kernel
theorem dX5_findIn_4 : decode cX5_findIn 4 = .ok (.if_icmp .ge 31, 3) := by decide +kernel
theorem dX5_findIn_7 : decode cX5_findIn 7 = .ok (.aload_n 0, 1) := by decide +kernel
theorem dX5_findIn_8 : decode cX5_findIn 8 = .ok (.getfield 18, 3) := by decide +kernel
theorem dX5_findIn_11 : decode cX5_findIn 11 = .ok (.iload_n 3, 1) := by decide +kernel
theorem dX5_findIn_12 : decode cX5_findIn 12 = .ok (.iaload, 1) := by decide +kernel
theorem dX5_findIn_13 : decode cX5_findIn 13 = .ok (.iload_n 1, 1) := by decide +kernel
theorem dX5_findIn_14 : decode cX5_findIn 14 = .ok (.if_icmp .ne 15, 3) := by decide +kernel
theorem dX5_findIn_17 : decode cX5_findIn 17 = .ok (.aload_n 0, 1) := by decide +kernel
theorem dX5_findIn_18 : decode cX5_findIn 18 = .ok (.getfield 21, 3) := by decide +kernel
theorem dX5_findIn_21 : decode cX5_findIn 21 = .ok (.iload_n 3, 1) := by decide +kernel
theorem dX5_findIn_22 : decode cX5_findIn 22 = .ok (.iaload, 1) := by decide +kernel
theorem dX5_findIn_23 : decode cX5_findIn 23 = .ok (.iload_n 2, 1) := by decide +kernel
theorem dX5_findIn_24 : decode cX5_findIn 24 = .ok (.if_icmp .ne 5, 3) := by decide +kernel
theorem dX5_findIn_27 : decode cX5_findIn 27 = .ok (.iload_n 3, 1) := by decide +kernel
theorem dX5_findIn_28 : decode cX5_findIn 28 = .ok (.ireturn, 1) := by decide +kernel
theorem dX5_findIn_29 : decode cX5_findIn 29 = .ok (.iinc 3 1, 3) := by decide +kernel
theorem dX5_findIn_32 : decode cX5_findIn 32 = .ok (.goto (-30), 3) := by decide +kernel
theorem dX5_findIn_35 : decode cX5_findIn 35 = .ok (.bipush (-6), 2) := by decide +kernel
theorem dX5_findIn_37 : decode cX5_findIn 37 = .ok (.ireturn, 1) := by decide +kernel
theorem dX5_numberInBoxes_0 : decode cX5_numberInBoxes 0 = .ok (.iconst 0, 1) := by decide +kernel
theorem dX5_numberInBoxes_1 : decode cX5_numberInBoxes 1 = .ok (.istore_n 1, 1) := by decide +kernel
theorem dX5_numberInBoxes_2 : decode cX5_numberInBoxes 2 = .ok (.iconst 0, 1) := by decide +kernel
theorem dX5_numberInBoxes_3 : decode cX5_numberInBoxes 3 = .ok (.istore_n 2, 1) := by decide +kernel
theorem dX5_numberInBoxes_4 : decode cX5_numberInBoxes 4 = .ok (.iload_n 2, 1) := by decide +kernel
theorem dX5_numberInBoxes_5 : decode cX5_numberInBoxes 5 = .ok (.iconst 5, 1) := by decide +kernel
theorem dX5_numberInBoxes_6 : decode cX5_numberInBoxes 6 = .ok (.if_icmp .ge 23, 3) := by decide +kernel
theorem dX5_numberInBoxes_9 : decode cX5_numberInBoxes 9 = .ok (.aload_n 0, 1) := by decide +kernel
theorem dX5_numberInBoxes_10 : decode cX5_numberInBoxes 10 = .ok (.getfield 18, 3) := by decide +kernel
theorem dX5_numberInBoxes_13 : decode cX5_numberInBoxes 13 = .ok (.iload_n 2, 1) := by decide +kernel
theorem dX5_numberInBoxes_14 : decode cX5_numberInBoxes 14 = .ok (.iaload, 1) := by decide +kernel
theorem dX5_numberInBoxes_15 : decode cX5_numberInBoxes 15 = .ok (.bipush (-6), 2) := by decide +kernel
theorem dX5_numberInBoxes_17 : decode cX5_numberInBoxes 17 = .ok (.if_icmp .eq 6, 3) := by decide +kernel
theorem dX5_numberInBoxes_20 : decode cX5_numberInBoxes 20 = .ok (.iinc 1 1, 3) := by decide +kernel
theorem dX5_numberInBoxes_23 : decode cX5_numberInBoxes 23 = .ok (.iinc 2 1, 3) := by decide +kernel
theorem dX5_numberInBoxes_26 : decode cX5_numberInBoxes 26 = .ok (.goto (-22), 3) := by decide +kernel
theorem dX5_numberInBoxes_29 : decode cX5_numberInBoxes 29 = .ok (.iload_n 1, 1) := by decide +kernel
theorem dX5_numberInBoxes_30 : decode cX5_numberInBoxes 30 = .ok (.ireturn, 1) := by decide +kernel
theorem dX5_place_0 : decode cX5_place 0 = .ok (.iload_n 1, 1) := by decide +kernel
theorem dX5_place_1 : decode cX5_place 1 = .ok (.invokestatic 30, 3) := by decide +kernel
theorem dX5_place_4 : decode cX5_place 4 = .ok (.ifCond .eq 17, 3) := by decide +kernel
theorem dX5_place_7 : decode cX5_place 7 = .ok (.aload_n 0, 1) := by decide +kernel
theorem dX5_place_8 : decode cX5_place 8 = .ok (.getfield 18, 3) := by decide +kernel
theorem dX5_place_11 : decode cX5_place 11 = .ok (.iload_n 1, 1) := by decide +kernel
theorem dX5_place_12 : decode cX5_place 12 = .ok (.iload_n 2, 1) := by decide +kernel
theorem dX5_place_13 : decode cX5_place 13 = .ok (.iastore, 1) := by decide +kernel
theorem dX5_place_14 : decode cX5_place 14 = .ok (.aload_n 0, 1) := by decide +kernel
theorem dX5_place_15 : decode cX5_place 15 = .ok (.getfield 21, 3) := by decide +kernel
theorem dX5_place_18 : decode cX5_place 18 = .ok (.iload_n 1, 1) := by decide +kernel
theorem dX5_place_19 : decode cX5_place 19 = .ok (.iload_n 3, 1) := by decide +kernel
theorem dX5_place_20 : decode cX5_place 20 = .ok (.iastore, 1) := by decide +kernel
theorem dX5_place_21 : decode cX5_place 21 = .ok (.return_, 1) := by decide +kernel
theorem dX5_addYarn_0 : decode cX5_addYarn 0 = .ok (.iload_n 1, 1) := by decide +kernel
theorem dX5_addYarn_1 : decode cX5_addYarn 1 = .ok (.invokestatic 30, 3) := by decide +kernel
theorem dX5_addYarn_4 : decode cX5_addYarn 4 = .ok (.ifCond .eq 13, 3) := by decide +kernel
theorem dX5_addYarn_7 : decode cX5_addYarn 7 = .ok (.aload_n 0, 1) := by decide +kernel
theorem dX5_addYarn_8 : decode cX5_addYarn 8 = .ok (.getfield 15, 3) := by decide +kernel
theorem dX5_addYarn_11 : decode cX5_addYarn 11 = .ok (.iload_n 1, 1) := by decide +kernel
theorem dX5_addYarn_12 : decode cX5_addYarn 12 = .ok (.dup2, 1) := by decide +kernel
theorem dX5_addYarn_13 : decode cX5_addYarn 13 = .ok (.iaload, 1) := by decide +kernel
theorem dX5_addYarn_14 : decode cX5_addYarn 14 = .ok (.iload_n 2, 1) := by decide +kernel
theorem dX5_addYarn_15 : decode cX5_addYarn 15 = .ok (.iadd, 1) := by decide +kernel
theorem dX5_addYarn_16 : decode cX5_addYarn 16 = .ok (.iastore, 1) := by decide +kernel
theorem dX5_addYarn_17 : decode cX5_addYarn 17 = .ok (.return_, 1) := by decide +kernel
theorem dX5_standAs_0 : decode cX5_standAs 0 = .ok (.iconst 0, 1) := by decide +kernel
theorem dX5_standAs_1 : decode cX5_standAs 1 = .ok (.istore_n 2, 1) := by decide +kernel
theorem dX5_standAs_2 : decode cX5_standAs 2 = .ok (.iload_n 2, 1) := by decide +kernel
theorem dX5_standAs_3 : decode cX5_standAs 3 = .ok (.iconst 5, 1) := by decide +kernel
theorem dX5_standAs_4 : decode cX5_standAs 4 = .ok (.if_icmp .ge 41, 3) := by decide +kernel
theorem dX5_standAs_7 : decode cX5_standAs 7 = .ok (.aload_n 0, 1) := by decide +kernel
theorem dX5_standAs_8 : decode cX5_standAs 8 = .ok (.getfield 18, 3) := by decide +kernel
theorem dX5_standAs_11 : decode cX5_standAs 11 = .ok (.iload_n 2, 1) := by decide +kernel
theorem dX5_standAs_12 : decode cX5_standAs 12 = .ok (.iaload, 1) := by decide +kernel
theorem dX5_standAs_13 : decode cX5_standAs 13 = .ok (.aload_n 1, 1) := by decide +kernel
theorem dX5_standAs_14 : decode cX5_standAs 14 = .ok (.getfield 18, 3) := by decide +kernel
theorem dX5_standAs_17 : decode cX5_standAs 17 = .ok (.iload_n 2, 1) := by decide +kernel
theorem dX5_standAs_18 : decode cX5_standAs 18 = .ok (.iaload, 1) := by decide +kernel
theorem dX5_standAs_19 : decode cX5_standAs 19 = .ok (.if_icmp .ne 18, 3) := by decide +kernel
theorem dX5_standAs_22 : decode cX5_standAs 22 = .ok (.aload_n 0, 1) := by decide +kernel
theorem dX5_standAs_23 : decode cX5_standAs 23 = .ok (.getfield 21, 3) := by decide +kernel
theorem dX5_standAs_26 : decode cX5_standAs 26 = .ok (.iload_n 2, 1) := by decide +kernel
theorem dX5_standAs_27 : decode cX5_standAs 27 = .ok (.iaload, 1) := by decide +kernel
theorem dX5_standAs_28 : decode cX5_standAs 28 = .ok (.aload_n 1, 1) := by decide +kernel
theorem dX5_standAs_29 : decode cX5_standAs 29 = .ok (.getfield 21, 3) := by decide +kernel
theorem dX5_standAs_32 : decode cX5_standAs 32 = .ok (.iload_n 2, 1) := by decide +kernel
theorem dX5_standAs_33 : decode cX5_standAs 33 = .ok (.iaload, 1) := by decide +kernel
theorem dX5_standAs_34 : decode cX5_standAs 34 = .ok (.if_icmp .eq 5, 3) := by decide +kernel
theorem dX5_standAs_37 : decode cX5_standAs 37 = .ok (.iconst 0, 1) := by decide +kernel
theorem dX5_standAs_38 : decode cX5_standAs 38 = .ok (.ireturn, 1) := by decide +kernel
theorem dX5_standAs_39 : decode cX5_standAs 39 = .ok (.iinc 2 1, 3) := by decide +kernel
theorem dX5_standAs_42 : decode cX5_standAs 42 = .ok (.goto (-40), 3) := by decide +kernel
theorem dX5_standAs_45 : decode cX5_standAs 45 = .ok (.iconst 1, 1) := by decide +kernel
theorem dX5_standAs_46 : decode cX5_standAs 46 = .ok (.ireturn, 1) := by decide +kernel
end
section
theorem dX6_init_0 : decode cX6_init 0 = .ok (.aload_n 0, 1) := by decide +kernel
theorem dX6_init_1 : decode cX6_init 1 = .ok (.invokespecial 3, 3) := by decide +kernel
theorem dX6_init_4 : decode cX6_init 4 = .ok (.aload_n 0, 1) := by decide +kernel
theorem dX6_init_5 : decode cX6_init 5 = .ok (.bipush 12, 2) := by decide +kernel
theorem dX6_init_7 : decode cX6_init 7 = .ok (.newarray .int, 2) := by decide +kernel
theorem dX6_init_9 : decode cX6_init 9 = .ok (.putfield 9, 3) := by decide +kernel
theorem dX6_init_12 : decode cX6_init 12 = .ok (.aload_n 0, 1) := by decide +kernel
theorem dX6_init_13 : decode cX6_init 13 = .ok (.bipush 12, 2) := by decide +kernel
theorem dX6_init_15 : decode cX6_init 15 = .ok (.newarray .int, 2) := by decide +kernel
theorem dX6_init_17 : decode cX6_init 17 = .ok (.putfield 15, 3) := by decide +kernel
theorem dX6_init_20 : decode cX6_init 20 = .ok (.iconst 0, 1) := by decide +kernel
theorem dX6_init_21 : decode cX6_init 21 = .ok (.istore_n 1, 1) := by decide +kernel
theorem dX6_init_22 : decode cX6_init 22 = .ok (.iload_n 1, 1) := by decide +kernel
theorem dX6_init_23 : decode cX6_init 23 = .ok (.bipush 12, 2) := by decide +kernel
theorem dX6_init_25 : decode cX6_init 25 = .ok (.if_icmp .ge 27, 3) := by decide +kernel
theorem dX6_init_28 : decode cX6_init 28 = .ok (.aload_n 0, 1) := by decide +kernel
theorem dX6_init_29 : decode cX6_init 29 = .ok (.getfield 9, 3) := by decide +kernel
theorem dX6_init_32 : decode cX6_init 32 = .ok (.iload_n 1, 1) := by decide +kernel
theorem dX6_init_33 : decode cX6_init 33 = .ok (.iload_n 1, 1) := by decide +kernel
theorem dX6_init_34 : decode cX6_init 34 = .ok (.bipush 6, 2) := by decide +kernel
theorem dX6_init_36 : decode cX6_init 36 = .ok (.irem, 1) := by decide +kernel
theorem dX6_init_37 : decode cX6_init 37 = .ok (.iastore, 1) := by decide +kernel
theorem dX6_init_38 : decode cX6_init 38 = .ok (.aload_n 0, 1) := by decide +kernel
theorem dX6_init_39 : decode cX6_init 39 = .ok (.getfield 15, 3) := by decide +kernel
theorem dX6_init_42 : decode cX6_init 42 = .ok (.iload_n 1, 1) := by decide +kernel
theorem dX6_init_43 : decode cX6_init 43 = .ok (.bipush 60, 2) := by decide +kernel
theorem dX6_init_45 : decode cX6_init 45 = .ok (.iastore, 1) := by decide +kernel
theorem dX6_init_46 : decode cX6_init 46 = .ok (.iinc 1 1, 3) := by decide +kernel
theorem dX6_init_49 : decode cX6_init 49 = .ok (.goto (-27), 3) := by decide +kernel
theorem dX6_init_52 : decode cX6_init 52 = .ok (.return_, 1) := by decide +kernel
theorem dX6_copyFrom_0 : decode cX6_copyFrom 0 = .ok (.aload_n 1, 1) := by decide +kernel
theorem dX6_copyFrom_1 : decode cX6_copyFrom 1 = .ok (.getfield 9, 3) := by decide +kernel
theorem dX6_copyFrom_4 : decode cX6_copyFrom 4 = .ok (.iconst 0, 1) := by decide +kernel
theorem dX6_copyFrom_5 : decode cX6_copyFrom 5 = .ok (.aload_n 0, 1) := by decide +kernel
theorem dX6_copyFrom_6 : decode cX6_copyFrom 6 = .ok (.getfield 9, 3) := by decide +kernel
theorem dX6_copyFrom_9 : decode cX6_copyFrom 9 = .ok (.iconst 0, 1) := by decide +kernel
theorem dX6_copyFrom_10 : decode cX6_copyFrom 10 = .ok (.bipush 12, 2) := by decide +kernel
theorem dX6_copyFrom_12 : decode cX6_copyFrom 12 = .ok (.invokestatic 18, 3) := by decide +kernel
theorem dX6_copyFrom_15 : decode cX6_copyFrom 15 = .ok (.aload_n 1, 1) := by decide +kernel
theorem dX6_copyFrom_16 : decode cX6_copyFrom 16 = .ok (.getfield 15, 3) := by decide +kernel
theorem dX6_copyFrom_19 : decode cX6_copyFrom 19 = .ok (.iconst 0, 1) := by decide +kernel
theorem dX6_copyFrom_20 : decode cX6_copyFrom 20 = .ok (.aload_n 0, 1) := by decide +kernel
theorem dX6_copyFrom_21 : decode cX6_copyFrom 21 = .ok (.getfield 15, 3) := by decide +kernel
theorem dX6_copyFrom_24 : decode cX6_copyFrom 24 = .ok (.iconst 0, 1) := by decide +kernel
theorem dX6_copyFrom_25 : decode cX6_copyFrom 25 = .ok (.bipush 12, 2) := by decide +kernel
theorem dX6_copyFrom_27 : decode cX6_copyFrom 27 = .ok (.invokestatic 18, 3) := by decide +kernel
theorem dX6_copyFrom_30 : decode cX6_copyFrom 30 = .ok (.return_, 1) := by decide +kernel
theorem dX6_firstBroken_0 : decode cX6_firstBroken 0 = .ok (.iconst 0, 1) := by decide +kernel
theorem dX6_firstBroken_1 : decode cX6_firstBroken 1 = .ok (.istore_n 1, 1) := by decide +kernel
theorem dX6_firstBroken_2 : decode cX6_firstBroken 2 = .ok (.iload_n 1, 1) := by decide +kernel
theorem dX6_firstBroken_3 : decode cX6_firstBroken 3 = .ok (.bipush 12, 2) := by decide +kernel
theorem dX6_firstBroken_5 : decode cX6_firstBroken 5 = .ok (.if_icmp .ge 20, 3) := by decide +kernel
theorem dX6_firstBroken_8 : decode cX6_firstBroken 8 = .ok (.aload_n 0, 1) := by decide +kernel
theorem dX6_firstBroken_9 : decode cX6_firstBroken 9 = .ok (.getfield 15, 3) := by decide +kernel
theorem dX6_firstBroken_12 : decode cX6_firstBroken 12 = .ok (.iload_n 1, 1) := by decide +kernel
theorem dX6_firstBroken_13 : decode cX6_firstBroken 13 = .ok (.iaload, 1) := by decide +kernel
theorem dX6_firstBroken_14 : decode cX6_firstBroken 14 = .ok (.ifCond .ne 5, 3) := by decide +kernel
theorem dX6_firstBroken_17 : decode cX6_firstBroken 17 = .ok (.iload_n 1, 1) := by decide +kernel
theorem dX6_firstBroken_18 : decode cX6_firstBroken 18 = .ok (.ireturn, 1) := by decide +kernel
theorem dX6_firstBroken_19 : decode cX6_firstBroken 19 = .ok (.iinc 1 1, 3) := by decide +kernel
theorem dX6_firstBroken_22 : decode cX6_firstBroken 22 = .ok (.goto (-20), 3) := by decide +kernel
theorem dX6_firstBroken_25 : decode cX6_firstBroken 25 = .ok (.bipush (-6), 2) := by decide +kernel
theorem dX6_firstBroken_27 : decode cX6_firstBroken 27 = .ok (.ireturn, 1) := by decide +kernel
theorem dX6_inFrames_0 : decode cX6_inFrames 0 = .ok (.iconst 0, 1) := by decide +kernel
theorem dX6_inFrames_1 : decode cX6_inFrames 1 = .ok (.istore_n 2, 1) := by decide +kernel
theorem dX6_inFrames_2 : decode cX6_inFrames 2 = .ok (.iconst 0, 1) := by decide +kernel
theorem dX6_inFrames_3 : decode cX6_inFrames 3 = .ok (.istore_n 3, 1) := by decide +kernel
theorem dX6_inFrames_4 : decode cX6_inFrames 4 = .ok (.iload_n 3, 1) := by decide +kernel
theorem dX6_inFrames_5 : decode cX6_inFrames 5 = .ok (.bipush 12, 2) := by decide +kernel
theorem dX6_inFrames_7 : decode cX6_inFrames 7 = .ok (.if_icmp .ge 28, 3) := by decide +kernel
theorem dX6_inFrames_10 : decode cX6_inFrames 10 = .ok (.iload_n 1, 1) := by decide +kernel
theorem dX6_inFrames_11 : decode cX6_inFrames 11 = .ok (.aload_n 0, 1) := by decide +kernel
theorem dX6_inFrames_12 : decode cX6_inFrames 12 = .ok (.getfield 9, 3) := by decide +kernel
theorem dX6_inFrames_15 : decode cX6_inFrames 15 = .ok (.iload_n 3, 1) := by decide +kernel
theorem dX6_inFrames_16 : decode cX6_inFrames 16 = .ok (.iaload, 1) := by decide +kernel
theorem dX6_inFrames_17 : decode cX6_inFrames 17 = .ok (.invokestatic 24, 3) := by decide +kernel
theorem dX6_inFrames_20 : decode cX6_inFrames 20 = .ok (.ifCond .eq 9, 3) := by decide +kernel
theorem dX6_inFrames_23 : decode cX6_inFrames 23 = .ok (.iload_n 2, 1) := by decide +kernel
theorem dX6_inFrames_24 : decode cX6_inFrames 24 = .ok (.iconst 1, 1) := by decide +kernel
theorem dX6_inFrames_25 : decode cX6_inFrames 25 = .ok (.iload_n 3, 1) := by decide +kernel
theorem dX6_inFrames_26 : decode cX6_inFrames 26 = .ok (.ishl, 1) := by decide +kernel
theorem dX6_inFrames_27 : decode cX6_inFrames 27 = .ok (.ior, 1) := by decide +kernel
theorem dX6_inFrames_28 : decode cX6_inFrames 28 = .ok (.istore_n 2, 1) := by decide +kernel
theorem dX6_inFrames_29 : decode cX6_inFrames 29 = .ok (.iinc 3 1, 3) := by decide +kernel
theorem dX6_inFrames_32 : decode cX6_inFrames 32 = .ok (.goto (-28), 3) := by decide +kernel
theorem dX6_inFrames_35 : decode cX6_inFrames 35 = .ok (.iload_n 2, 1) := by decide +kernel
theorem dX6_inFrames_36 : decode cX6_inFrames 36 = .ok (.ireturn, 1) := by decide +kernel
theorem dX6_wearOut_0 : decode cX6_wearOut 0 = .ok (.iconst 0, 1) := by decide +kernel
theorem dX6_wearOut_1 : decode cX6_wearOut 1 = .ok (.istore_n 2, 1) := by decide +kernel
theorem dX6_wearOut_2 : decode cX6_wearOut 2 = .ok (.iload_n 2, 1) := by decide +kernel
theorem dX6_wearOut_3 : decode cX6_wearOut 3 = .ok (.bipush 12, 2) := by decide +kernel
theorem dX6_wearOut_5 : decode cX6_wearOut 5 = .ok (.if_icmp .ge 32, 3) := by decide +kernel
theorem dX6_wearOut_8 : decode cX6_wearOut 8 = .ok (.iload_n 1, 1) := by decide +kernel
theorem dX6_wearOut_9 : decode cX6_wearOut 9 = .ok (.aload_n 0, 1) := by decide +kernel
theorem dX6_wearOut_10 : decode cX6_wearOut 10 = .ok (.getfield 9, 3) := by decide +kernel
theorem dX6_wearOut_13 : decode cX6_wearOut 13 = .ok (.iload_n 2, 1) := by decide +kernel
theorem dX6_wearOut_14 : decode cX6_wearOut 14 = .ok (.iaload, 1) := by decide +kernel
theorem dX6_wearOut_15 : decode cX6_wearOut 15 = .ok (.invokestatic 24, 3) := by decide +kernel
theorem dX6_wearOut_18 : decode cX6_wearOut 18 = .ok (.ifCond .eq 13, 3) := by decide +kernel
theorem dX6_wearOut_21 : decode cX6_wearOut 21 = .ok (.aload_n 0, 1) := by decide +kernel
theorem dX6_wearOut_22 : decode cX6_wearOut 22 = .ok (.getfield 15, 3) := by decide +kernel
theorem dX6_wearOut_25 : decode cX6_wearOut 25 = .ok (.iload_n 2, 1) := by decide +kernel
theorem dX6_wearOut_26 : decode cX6_wearOut 26 = .ok (.dup2, 1) := by decide +kernel
theorem dX6_wearOut_27 : decode cX6_wearOut 27 = .ok (.iaload, 1) := by decide +kernel
theorem dX6_wearOut_28 : decode cX6_wearOut 28 = .ok (.iconst 1, 1) := by decide +kernel
theorem dX6_wearOut_29 : decode cX6_wearOut 29 = .ok (.isub, 1) := by decide +kernel
theorem dX6_wearOut_30 : decode cX6_wearOut 30 = .ok (.iastore, 1) := by decide +kernel
theorem dX6_wearOut_31 : decode cX6_wearOut 31 = .ok (.iinc 2 1, 3) := by decide +kernel
theorem dX6_wearOut_34 : decode cX6_wearOut 34 = .ok (.goto (-32), 3) := by decide +kernel
theorem dX6_wearOut_37 : decode cX6_wearOut 37 = .ok (.return_, 1) := by decide +kernel
end
section
theorem dX7_init_0 : decode cX7_init 0 = .ok (.aload_n 0, 1) := by decide +kernel
theorem dX7_init_1 : decode cX7_init 1 = .ok (.invokespecial 3, 3) := by decide +kernel
theorem dX7_init_4 : decode cX7_init 4 = .ok (.aload_n 0, 1) := by decide +kernel
theorem dX7_init_5 : decode cX7_init 5 = .ok (.new 9, 3) := by decide +kernel
theorem dX7_init_8 : decode cX7_init 8 = .ok (.dup, 1) := by decide +kernel
theorem dX7_init_9 : decode cX7_init 9 = .ok (.invokespecial 11, 3) := by decide +kernel
theorem dX7_init_12 : decode cX7_init 12 = .ok (.putfield 12, 3) := by decide +kernel
theorem dX7_init_15 : decode cX7_init 15 = .ok (.aload_n 0, 1) := by decide +kernel
theorem dX7_init_16 : decode cX7_init 16 = .ok (.bipush 6, 2) := by decide +kernel
theorem dX7_init_18 : decode cX7_init 18 = .ok (.anewarray 9, 3) := by decide +kernel
theorem dX7_init_21 : decode cX7_init 21 = .ok (.putfield 16, 3) := by decide +kernel
theorem dX7_init_24 : decode cX7_init 24 = .ok (.aload_n 0, 1) := by decide +kernel
theorem dX7_init_25 : decode cX7_init 25 = .ok (.iconst 0, 1) := by decide +kernel
theorem dX7_init_26 : decode cX7_init 26 = .ok (.putfield 20, 3) := by decide +kernel
theorem dX7_init_29 : decode cX7_init 29 = .ok (.aload_n 0, 1) := by decide +kernel
theorem dX7_init_30 : decode cX7_init 30 = .ok (.iconst 0, 1) := by decide +kernel
theorem dX7_init_31 : decode cX7_init 31 = .ok (.putfield 24, 3) := by decide +kernel
theorem dX7_init_34 : decode cX7_init 34 = .ok (.aload_n 0, 1) := by decide +kernel
theorem dX7_init_35 : decode cX7_init 35 = .ok (.new 27, 3) := by decide +kernel
theorem dX7_init_38 : decode cX7_init 38 = .ok (.dup, 1) := by decide +kernel
theorem dX7_init_39 : decode cX7_init 39 = .ok (.invokespecial 29, 3) := by decide +kernel
theorem dX7_init_42 : decode cX7_init 42 = .ok (.putfield 30, 3) := by decide +kernel
theorem dX7_init_45 : decode cX7_init 45 = .ok (.aload_n 0, 1) := by decide +kernel
theorem dX7_init_46 : decode cX7_init 46 = .ok (.new 34, 3) := by decide +kernel
theorem dX7_init_49 : decode cX7_init 49 = .ok (.dup, 1) := by decide +kernel
theorem dX7_init_50 : decode cX7_init 50 = .ok (.invokespecial 36, 3) := by decide +kernel
theorem dX7_init_53 : decode cX7_init 53 = .ok (.putfield 37, 3) := by decide +kernel
theorem dX7_init_56 : decode cX7_init 56 = .ok (.aload_n 0, 1) := by decide +kernel
theorem dX7_init_57 : decode cX7_init 57 = .ok (.bipush 80, 2) := by decide +kernel
theorem dX7_init_59 : decode cX7_init 59 = .ok (.newarray .char, 2) := by decide +kernel
theorem dX7_init_61 : decode cX7_init 61 = .ok (.putfield 41, 3) := by decide +kernel
theorem dX7_init_64 : decode cX7_init 64 = .ok (.aload_n 0, 1) := by decide +kernel
theorem dX7_init_65 : decode cX7_init 65 = .ok (.iconst 0, 1) := by decide +kernel
theorem dX7_init_66 : decode cX7_init 66 = .ok (.putfield 45, 3) := by decide +kernel
theorem dX7_init_69 : decode cX7_init 69 = .ok (.iconst 0, 1) := by decide +kernel
theorem dX7_init_70 : decode cX7_init 70 = .ok (.istore_n 1, 1) := by decide +kernel
theorem dX7_init_71 : decode cX7_init 71 = .ok (.iload_n 1, 1) := by decide +kernel
theorem dX7_init_72 : decode cX7_init 72 = .ok (.bipush 6, 2) := by decide +kernel
theorem dX7_init_74 : decode cX7_init 74 = .ok (.if_icmp .ge 22, 3) := by decide +kernel
theorem dX7_init_77 : decode cX7_init 77 = .ok (.aload_n 0, 1) := by decide +kernel
theorem dX7_init_78 : decode cX7_init 78 = .ok (.getfield 16, 3) := by decide +kernel
theorem dX7_init_81 : decode cX7_init 81 = .ok (.iload_n 1, 1) := by decide +kernel
theorem dX7_init_82 : decode cX7_init 82 = .ok (.new 9, 3) := by decide +kernel
theorem dX7_init_85 : decode cX7_init 85 = .ok (.dup, 1) := by decide +kernel
theorem dX7_init_86 : decode cX7_init 86 = .ok (.invokespecial 11, 3) := by decide +kernel
theorem dX7_init_89 : decode cX7_init 89 = .ok (.aastore, 1) := by decide +kernel
theorem dX7_init_90 : decode cX7_init 90 = .ok (.iinc 1 1, 3) := by decide +kernel
theorem dX7_init_93 : decode cX7_init 93 = .ok (.goto (-22), 3) := by decide +kernel
theorem dX7_init_96 : decode cX7_init 96 = .ok (.return_, 1) := by decide +kernel
theorem dX7_putIn_0 : decode cX7_putIn 0 = .ok (.iload_n 1, 1) := by decide +kernel
theorem dX7_putIn_1 : decode cX7_putIn 1 = .ok (.invokestatic 48, 3) := by decide +kernel
theorem dX7_putIn_4 : decode cX7_putIn 4 = .ok (.ifCond .eq 11, 3) := by decide +kernel
theorem dX7_putIn_7 : decode cX7_putIn 7 = .ok (.iload_n 2, 1) := by decide +kernel
theorem dX7_putIn_8 : decode cX7_putIn 8 = .ok (.iload_n 3, 1) := by decide +kernel
theorem dX7_putIn_9 : decode cX7_putIn 9 = .ok (.invokestatic 52, 3) := by decide +kernel
theorem dX7_putIn_12 : decode cX7_putIn 12 = .ok (.ifCond .ne 5, 3) := by decide +kernel
theorem dX7_putIn_15 : decode cX7_putIn 15 = .ok (.iconst (-1), 1) := by decide +kernel
theorem dX7_putIn_16 : decode cX7_putIn 16 = .ok (.ireturn, 1) := by decide +kernel
theorem dX7_putIn_17 : decode cX7_putIn 17 = .ok (.aload_n 0, 1) := by decide +kernel
theorem dX7_putIn_18 : decode cX7_putIn 18 = .ok (.getfield 12, 3) := by decide +kernel
theorem dX7_putIn_21 : decode cX7_putIn 21 = .ok (.getfield 56, 3) := by decide +kernel
theorem dX7_putIn_24 : decode cX7_putIn 24 = .ok (.getfield 59, 3) := by decide +kernel
theorem dX7_putIn_27 : decode cX7_putIn 27 = .ok (.astore 4, 2) := by decide +kernel
theorem dX7_putIn_29 : decode cX7_putIn 29 = .ok (.aload 4, 2) := by decide +kernel
theorem dX7_putIn_31 : decode cX7_putIn 31 = .ok (.iload_n 1, 1) := by decide +kernel
theorem dX7_putIn_32 : decode cX7_putIn 32 = .ok (.invokevirtual 63, 3) := by decide +kernel
theorem dX7_putIn_35 : decode cX7_putIn 35 = .ok (.ifCond .eq 15, 3) := by decide +kernel
theorem dX7_putIn_38 : decode cX7_putIn 38 = .ok (.aload 4, 2) := by decide +kernel
theorem dX7_putIn_40 : decode cX7_putIn 40 = .ok (.iload_n 2, 1) := by decide +kernel
theorem dX7_putIn_41 : decode cX7_putIn 41 = .ok (.iload_n 3, 1) := by decide +kernel
theorem dX7_putIn_42 : decode cX7_putIn 42 = .ok (.invokevirtual 68, 3) := by decide +kernel
theorem dX7_putIn_45 : decode cX7_putIn 45 = .ok (.bipush (-6), 2) := by decide +kernel
theorem dX7_putIn_47 : decode cX7_putIn 47 = .ok (.if_icmp .eq 6, 3) := by decide +kernel
theorem dX7_putIn_50 : decode cX7_putIn 50 = .ok (.bipush (-3), 2) := by decide +kernel
theorem dX7_putIn_52 : decode cX7_putIn 52 = .ok (.ireturn, 1) := by decide +kernel
theorem dX7_putIn_53 : decode cX7_putIn 53 = .ok (.aload_n 0, 1) := by decide +kernel
theorem dX7_putIn_54 : decode cX7_putIn 54 = .ok (.invokevirtual 72, 3) := by decide +kernel
theorem dX7_putIn_57 : decode cX7_putIn 57 = .ok (.aload 4, 2) := by decide +kernel
theorem dX7_putIn_59 : decode cX7_putIn 59 = .ok (.iload_n 1, 1) := by decide +kernel
theorem dX7_putIn_60 : decode cX7_putIn 60 = .ok (.iload_n 2, 1) := by decide +kernel
theorem dX7_putIn_61 : decode cX7_putIn 61 = .ok (.iload_n 3, 1) := by decide +kernel
theorem dX7_putIn_62 : decode cX7_putIn 62 = .ok (.invokevirtual 75, 3) := by decide +kernel
theorem dX7_putIn_65 : decode cX7_putIn 65 = .ok (.aload 4, 2) := by decide +kernel
theorem dX7_putIn_67 : decode cX7_putIn 67 = .ok (.invokevirtual 79, 3) := by decide +kernel
theorem dX7_putIn_70 : decode cX7_putIn 70 = .ok (.ireturn, 1) := by decide +kernel
theorem dX7_takeOut_0 : decode cX7_takeOut 0 = .ok (.iload_n 1, 1) := by decide +kernel
theorem dX7_takeOut_1 : decode cX7_takeOut 1 = .ok (.invokestatic 48, 3) := by decide +kernel
theorem dX7_takeOut_4 : decode cX7_takeOut 4 = .ok (.ifCond .ne 5, 3) := by decide +kernel
theorem dX7_takeOut_7 : decode cX7_takeOut 7 = .ok (.iconst (-1), 1) := by decide +kernel
theorem dX7_takeOut_8 : decode cX7_takeOut 8 = .ok (.ireturn, 1) := by decide +kernel
theorem dX7_takeOut_9 : decode cX7_takeOut 9 = .ok (.aload_n 0, 1) := by decide +kernel
theorem dX7_takeOut_10 : decode cX7_takeOut 10 = .ok (.getfield 12, 3) := by decide +kernel
theorem dX7_takeOut_13 : decode cX7_takeOut 13 = .ok (.getfield 56, 3) := by decide +kernel
theorem dX7_takeOut_16 : decode cX7_takeOut 16 = .ok (.getfield 59, 3) := by decide +kernel
theorem dX7_takeOut_19 : decode cX7_takeOut 19 = .ok (.astore_n 2, 1) := by decide +kernel
theorem dX7_takeOut_20 : decode cX7_takeOut 20 = .ok (.aload_n 2, 1) := by decide +kernel
theorem dX7_takeOut_21 : decode cX7_takeOut 21 = .ok (.iload_n 1, 1) := by decide +kernel
theorem dX7_takeOut_22 : decode cX7_takeOut 22 = .ok (.invokevirtual 63, 3) := by decide +kernel
theorem dX7_takeOut_25 : decode cX7_takeOut 25 = .ok (.ifCond .eq 6, 3) := by decide +kernel
theorem dX7_takeOut_28 : decode cX7_takeOut 28 = .ok (.bipush (-3), 2) := by decide +kernel
theorem dX7_takeOut_30 : decode cX7_takeOut 30 = .ok (.ireturn, 1) := by decide +kernel
theorem dX7_takeOut_31 : decode cX7_takeOut 31 = .ok (.aload_n 0, 1) := by decide +kernel
theorem dX7_takeOut_32 : decode cX7_takeOut 32 = .ok (.invokevirtual 72, 3) := by decide +kernel
theorem dX7_takeOut_35 : decode cX7_takeOut 35 = .ok (.bipush 10, 2) := by decide +kernel
theorem dX7_takeOut_37 : decode cX7_takeOut 37 = .ok (.aload_n 2, 1) := by decide +kernel
theorem dX7_takeOut_38 : decode cX7_takeOut 38 = .ok (.getfield 83, 3) := by decide +kernel
theorem dX7_takeOut_41 : decode cX7_takeOut 41 = .ok (.iload_n 1, 1) := by decide +kernel
theorem dX7_takeOut_42 : decode cX7_takeOut 42 = .ok (.iaload, 1) := by decide +kernel
theorem dX7_takeOut_43 : decode cX7_takeOut 43 = .ok (.imul, 1) := by decide +kernel
theorem dX7_takeOut_44 : decode cX7_takeOut 44 = .ok (.aload_n 2, 1) := by decide +kernel
theorem dX7_takeOut_45 : decode cX7_takeOut 45 = .ok (.getfield 87, 3) := by decide +kernel
theorem dX7_takeOut_48 : decode cX7_takeOut 48 = .ok (.iload_n 1, 1) := by decide +kernel
theorem dX7_takeOut_49 : decode cX7_takeOut 49 = .ok (.iaload, 1) := by decide +kernel
theorem dX7_takeOut_50 : decode cX7_takeOut 50 = .ok (.iadd, 1) := by decide +kernel
theorem dX7_takeOut_51 : decode cX7_takeOut 51 = .ok (.istore_n 3, 1) := by decide +kernel
theorem dX7_takeOut_52 : decode cX7_takeOut 52 = .ok (.aload_n 2, 1) := by decide +kernel
theorem dX7_takeOut_53 : decode cX7_takeOut 53 = .ok (.iload_n 1, 1) := by decide +kernel
theorem dX7_takeOut_54 : decode cX7_takeOut 54 = .ok (.bipush (-6), 2) := by decide +kernel
theorem dX7_takeOut_56 : decode cX7_takeOut 56 = .ok (.bipush (-6), 2) := by decide +kernel
theorem dX7_takeOut_58 : decode cX7_takeOut 58 = .ok (.invokevirtual 75, 3) := by decide +kernel
theorem dX7_takeOut_61 : decode cX7_takeOut 61 = .ok (.iload_n 3, 1) := by decide +kernel
theorem dX7_takeOut_62 : decode cX7_takeOut 62 = .ok (.ireturn, 1) := by decide +kernel
theorem dX7_wind_0 : decode cX7_wind 0 = .ok (.iload_n 1, 1) := by decide +kernel
theorem dX7_wind_1 : decode cX7_wind 1 = .ok (.invokestatic 48, 3) := by decide +kernel
theorem dX7_wind_4 : decode cX7_wind 4 = .ok (.ifCond .ne 5, 3) := by decide +kernel
theorem dX7_wind_7 : decode cX7_wind 7 = .ok (.iconst (-1), 1) := by decide +kernel
theorem dX7_wind_8 : decode cX7_wind 8 = .ok (.ireturn, 1) := by decide +kernel
theorem dX7_wind_9 : decode cX7_wind 9 = .ok (.iload_n 2, 1) := by decide +kernel
theorem dX7_wind_10 : decode cX7_wind 10 = .ok (.iconst 0, 1) := by decide +kernel
theorem dX7_wind_11 : decode cX7_wind 11 = .ok (.bipush 9, 2) := by decide +kernel
theorem dX7_wind_13 : decode cX7_wind 13 = .ok (.invokestatic 90, 3) := by decide +kernel
theorem dX7_wind_16 : decode cX7_wind 16 = .ok (.ifCond .eq 13, 3) := by decide +kernel
theorem dX7_wind_19 : decode cX7_wind 19 = .ok (.iload_n 3, 1) := by decide +kernel
theorem dX7_wind_20 : decode cX7_wind 20 = .ok (.iconst 0, 1) := by decide +kernel
theorem dX7_wind_21 : decode cX7_wind 21 = .ok (.bipush 99, 2) := by decide +kernel
theorem dX7_wind_23 : decode cX7_wind 23 = .ok (.invokestatic 90, 3) := by decide +kernel
theorem dX7_wind_26 : decode cX7_wind 26 = .ok (.ifCond .ne 6, 3) := by decide +kernel
theorem dX7_wind_29 : decode cX7_wind 29 = .ok (.bipush (-2), 2) := by decide +kernel
theorem dX7_wind_31 : decode cX7_wind 31 = .ok (.ireturn, 1) := by decide +kernel
theorem dX7_wind_32 : decode cX7_wind 32 = .ok (.aload_n 0, 1) := by decide +kernel
theorem dX7_wind_33 : decode cX7_wind 33 = .ok (.getfield 12, 3) := by decide +kernel
theorem dX7_wind_36 : decode cX7_wind 36 = .ok (.getfield 56, 3) := by decide +kernel
theorem dX7_wind_39 : decode cX7_wind 39 = .ok (.getfield 59, 3) := by decide +kernel
theorem dX7_wind_42 : decode cX7_wind 42 = .ok (.astore 4, 2) := by decide +kernel
theorem dX7_wind_44 : decode cX7_wind 44 = .ok (.aload 4, 2) := by decide +kernel
theorem dX7_wind_46 : decode cX7_wind 46 = .ok (.iload_n 1, 1) := by decide +kernel
theorem dX7_wind_47 : decode cX7_wind 47 = .ok (.invokevirtual 63, 3) := by decide +kernel
theorem dX7_wind_50 : decode cX7_wind 50 = .ok (.ifCond .ne 6, 3) := by decide +kernel
theorem dX7_wind_53 : decode cX7_wind 53 = .ok (.bipush (-3), 2) := by decide +kernel
theorem dX7_wind_55 : decode cX7_wind 55 = .ok (.ireturn, 1) := by decide +kernel
theorem dX7_wind_56 : decode cX7_wind 56 = .ok (.aload_n 0, 1) := by decide +kernel
theorem dX7_wind_57 : decode cX7_wind 57 = .ok (.invokevirtual 72, 3) := by decide +kernel
theorem dX7_wind_60 : decode cX7_wind 60 = .ok (.aload 4, 2) := by decide +kernel
theorem dX7_wind_62 : decode cX7_wind 62 = .ok (.getfield 94, 3) := by decide +kernel
theorem dX7_wind_65 : decode cX7_wind 65 = .ok (.iload_n 1, 1) := by decide +kernel
theorem dX7_wind_66 : decode cX7_wind 66 = .ok (.iaload, 1) := by decide +kernel
theorem dX7_wind_67 : decode cX7_wind 67 = .ok (.istore 5, 2) := by decide +kernel
theorem dX7_wind_69 : decode cX7_wind 69 = .ok (.aload 4, 2) := by decide +kernel
theorem dX7_wind_71 : decode cX7_wind 71 = .ok (.getfield 97, 3) := by decide +kernel
theorem dX7_wind_74 : decode cX7_wind 74 = .ok (.iload_n 1, 1) := by decide +kernel
theorem dX7_wind_75 : decode cX7_wind 75 = .ok (.iload_n 2, 1) := by decide +kernel
theorem dX7_wind_76 : decode cX7_wind 76 = .ok (.iastore, 1) := by decide +kernel
theorem dX7_wind_77 : decode cX7_wind 77 = .ok (.aload 4, 2) := by decide +kernel
theorem dX7_wind_79 : decode cX7_wind 79 = .ok (.getfield 94, 3) := by decide +kernel
theorem dX7_wind_82 : decode cX7_wind 82 = .ok (.iload_n 1, 1) := by decide +kernel
theorem dX7_wind_83 : decode cX7_wind 83 = .ok (.iload_n 3, 1) := by decide +kernel
theorem dX7_wind_84 : decode cX7_wind 84 = .ok (.iastore, 1) := by decide +kernel
theorem dX7_wind_85 : decode cX7_wind 85 = .ok (.iload 5, 2) := by decide +kernel
theorem dX7_wind_87 : decode cX7_wind 87 = .ok (.ireturn, 1) := by decide +kernel
theorem dX7_moveBoxes_0 : decode cX7_moveBoxes 0 = .ok (.iload_n 1, 1) := by decide +kernel
theorem dX7_moveBoxes_1 : decode cX7_moveBoxes 1 = .ok (.iload_n 2, 1) := by decide +kernel
theorem dX7_moveBoxes_2 : decode cX7_moveBoxes 2 = .ok (.invokestatic 52, 3) := by decide +kernel
theorem dX7_moveBoxes_5 : decode cX7_moveBoxes 5 = .ok (.ifCond .ne 5, 3) := by decide +kernel
theorem dX7_moveBoxes_8 : decode cX7_moveBoxes 8 = .ok (.iconst (-1), 1) := by decide +kernel
theorem dX7_moveBoxes_9 : decode cX7_moveBoxes 9 = .ok (.ireturn, 1) := by decide +kernel
theorem dX7_moveBoxes_10 : decode cX7_moveBoxes 10 = .ok (.aload_n 0, 1) := by decide +kernel
theorem dX7_moveBoxes_11 : decode cX7_moveBoxes 11 = .ok (.invokevirtual 72, 3) := by decide +kernel
theorem dX7_moveBoxes_14 : decode cX7_moveBoxes 14 = .ok (.aload_n 0, 1) := by decide +kernel
theorem dX7_moveBoxes_15 : decode cX7_moveBoxes 15 = .ok (.getfield 12, 3) := by decide +kernel
theorem dX7_moveBoxes_18 : decode cX7_moveBoxes 18 = .ok (.getfield 56, 3) := by decide +kernel
theorem dX7_moveBoxes_21 : decode cX7_moveBoxes 21 = .ok (.getfield 100, 3) := by decide +kernel
theorem dX7_moveBoxes_24 : decode cX7_moveBoxes 24 = .ok (.iload_n 1, 1) := by decide +kernel
theorem dX7_moveBoxes_25 : decode cX7_moveBoxes 25 = .ok (.iaload, 1) := by decide +kernel
theorem dX7_moveBoxes_26 : decode cX7_moveBoxes 26 = .ok (.istore_n 3, 1) := by decide +kernel
theorem dX7_moveBoxes_27 : decode cX7_moveBoxes 27 = .ok (.aload_n 0, 1) := by decide +kernel
theorem dX7_moveBoxes_28 : decode cX7_moveBoxes 28 = .ok (.getfield 12, 3) := by decide +kernel
theorem dX7_moveBoxes_31 : decode cX7_moveBoxes 31 = .ok (.getfield 56, 3) := by decide +kernel
theorem dX7_moveBoxes_34 : decode cX7_moveBoxes 34 = .ok (.getfield 100, 3) := by decide +kernel
theorem dX7_moveBoxes_37 : decode cX7_moveBoxes 37 = .ok (.iload_n 1, 1) := by decide +kernel
theorem dX7_moveBoxes_38 : decode cX7_moveBoxes 38 = .ok (.iload_n 2, 1) := by decide +kernel
theorem dX7_moveBoxes_39 : decode cX7_moveBoxes 39 = .ok (.iastore, 1) := by decide +kernel
theorem dX7_moveBoxes_40 : decode cX7_moveBoxes 40 = .ok (.iload_n 3, 1) := by decide +kernel
theorem dX7_moveBoxes_41 : decode cX7_moveBoxes 41 = .ok (.ireturn, 1) := by decide +kernel
theorem dX7_draw_0 : decode cX7_draw 0 = .ok (.iload_n 1, 1) := by decide +kernel
theorem dX7_draw_1 : decode cX7_draw 1 = .ok (.invokestatic 103, 3) := by decide +kernel
theorem dX7_draw_4 : decode cX7_draw 4 = .ok (.ifCond .eq 12, 3) := by decide +kernel
theorem dX7_draw_7 : decode cX7_draw 7 = .ok (.iload_n 2, 1) := by decide +kernel
theorem dX7_draw_8 : decode cX7_draw 8 = .ok (.iconst 0, 1) := by decide +kernel
theorem dX7_draw_9 : decode cX7_draw 9 = .ok (.iconst 5, 1) := by decide +kernel
theorem dX7_draw_10 : decode cX7_draw 10 = .ok (.invokestatic 90, 3) := by decide +kernel
theorem dX7_draw_13 : decode cX7_draw 13 = .ok (.ifCond .ne 5, 3) := by decide +kernel
theorem dX7_draw_16 : decode cX7_draw 16 = .ok (.iconst (-1), 1) := by decide +kernel
theorem dX7_draw_17 : decode cX7_draw 17 = .ok (.ireturn, 1) := by decide +kernel
theorem dX7_draw_18 : decode cX7_draw 18 = .ok (.aload_n 0, 1) := by decide +kernel
theorem dX7_draw_19 : decode cX7_draw 19 = .ok (.invokevirtual 72, 3) := by decide +kernel
theorem dX7_draw_22 : decode cX7_draw 22 = .ok (.aload_n 0, 1) := by decide +kernel
theorem dX7_draw_23 : decode cX7_draw 23 = .ok (.getfield 12, 3) := by decide +kernel
theorem dX7_draw_26 : decode cX7_draw 26 = .ok (.getfield 56, 3) := by decide +kernel
theorem dX7_draw_29 : decode cX7_draw 29 = .ok (.getfield 106, 3) := by decide +kernel
theorem dX7_draw_32 : decode cX7_draw 32 = .ok (.getfield 110, 3) := by decide +kernel
theorem dX7_draw_35 : decode cX7_draw 35 = .ok (.iload_n 1, 1) := by decide +kernel
theorem dX7_draw_36 : decode cX7_draw 36 = .ok (.iaload, 1) := by decide +kernel
theorem dX7_draw_37 : decode cX7_draw 37 = .ok (.istore_n 3, 1) := by decide +kernel
theorem dX7_draw_38 : decode cX7_draw 38 = .ok (.aload_n 0, 1) := by decide +kernel
theorem dX7_draw_39 : decode cX7_draw 39 = .ok (.getfield 12, 3) := by decide +kernel
theorem dX7_draw_42 : decode cX7_draw 42 = .ok (.getfield 56, 3) := by decide +kernel
theorem dX7_draw_45 : decode cX7_draw 45 = .ok (.getfield 106, 3) := by decide +kernel
theorem dX7_draw_48 : decode cX7_draw 48 = .ok (.getfield 110, 3) := by decide +kernel
theorem dX7_draw_51 : decode cX7_draw 51 = .ok (.iload_n 1, 1) := by decide +kernel
theorem dX7_draw_52 : decode cX7_draw 52 = .ok (.iload_n 2, 1) := by decide +kernel
theorem dX7_draw_53 : decode cX7_draw 53 = .ok (.iastore, 1) := by decide +kernel
theorem dX7_draw_54 : decode cX7_draw 54 = .ok (.iload_n 3, 1) := by decide +kernel
theorem dX7_draw_55 : decode cX7_draw 55 = .ok (.ireturn, 1) := by decide +kernel
theorem dX7_mend_0 : decode cX7_mend 0 = .ok (.iload_n 1, 1) := by decide +kernel
theorem dX7_mend_1 : decode cX7_mend 1 = .ok (.invokestatic 103, 3) := by decide +kernel
theorem dX7_mend_4 : decode cX7_mend 4 = .ok (.ifCond .ne 5, 3) := by decide +kernel
theorem dX7_mend_7 : decode cX7_mend 7 = .ok (.iconst (-1), 1) := by decide +kernel
theorem dX7_mend_8 : decode cX7_mend 8 = .ok (.ireturn, 1) := by decide +kernel
theorem dX7_mend_9 : decode cX7_mend 9 = .ok (.iload_n 2, 1) := by decide +kernel
theorem dX7_mend_10 : decode cX7_mend 10 = .ok (.iconst 0, 1) := by decide +kernel
theorem dX7_mend_11 : decode cX7_mend 11 = .ok (.bipush 99, 2) := by decide +kernel
theorem dX7_mend_13 : decode cX7_mend 13 = .ok (.invokestatic 90, 3) := by decide +kernel
theorem dX7_mend_16 : decode cX7_mend 16 = .ok (.ifCond .ne 6, 3) := by decide +kernel
theorem dX7_mend_19 : decode cX7_mend 19 = .ok (.bipush (-2), 2) := by decide +kernel
theorem dX7_mend_21 : decode cX7_mend 21 = .ok (.ireturn, 1) := by decide +kernel
theorem dX7_mend_22 : decode cX7_mend 22 = .ok (.aload_n 0, 1) := by decide +kernel
theorem dX7_mend_23 : decode cX7_mend 23 = .ok (.invokevirtual 72, 3) := by decide +kernel
theorem dX7_mend_26 : decode cX7_mend 26 = .ok (.aload_n 0, 1) := by decide +kernel
theorem dX7_mend_27 : decode cX7_mend 27 = .ok (.getfield 12, 3) := by decide +kernel
theorem dX7_mend_30 : decode cX7_mend 30 = .ok (.getfield 56, 3) := by decide +kernel
theorem dX7_mend_33 : decode cX7_mend 33 = .ok (.getfield 106, 3) := by decide +kernel
theorem dX7_mend_36 : decode cX7_mend 36 = .ok (.getfield 115, 3) := by decide +kernel
theorem dX7_mend_39 : decode cX7_mend 39 = .ok (.iload_n 1, 1) := by decide +kernel
theorem dX7_mend_40 : decode cX7_mend 40 = .ok (.iaload, 1) := by decide +kernel
theorem dX7_mend_41 : decode cX7_mend 41 = .ok (.istore_n 3, 1) := by decide +kernel
theorem dX7_mend_42 : decode cX7_mend 42 = .ok (.aload_n 0, 1) := by decide +kernel
theorem dX7_mend_43 : decode cX7_mend 43 = .ok (.getfield 12, 3) := by decide +kernel
theorem dX7_mend_46 : decode cX7_mend 46 = .ok (.getfield 56, 3) := by decide +kernel
theorem dX7_mend_49 : decode cX7_mend 49 = .ok (.getfield 106, 3) := by decide +kernel
theorem dX7_mend_52 : decode cX7_mend 52 = .ok (.getfield 115, 3) := by decide +kernel
theorem dX7_mend_55 : decode cX7_mend 55 = .ok (.iload_n 1, 1) := by decide +kernel
theorem dX7_mend_56 : decode cX7_mend 56 = .ok (.iload_n 2, 1) := by decide +kernel
theorem dX7_mend_57 : decode cX7_mend 57 = .ok (.iastore, 1) := by decide +kernel
theorem dX7_mend_58 : decode cX7_mend 58 = .ok (.iload_n 3, 1) := by decide +kernel
theorem dX7_mend_59 : decode cX7_mend 59 = .ok (.ireturn, 1) := by decide +kernel
theorem dX7_setSpeed_0 : decode cX7_setSpeed 0 = .ok (.iload_n 1, 1) := by decide +kernel
theorem dX7_setSpeed_1 : decode cX7_setSpeed 1 = .ok (.iconst 1, 1) := by decide +kernel
theorem dX7_setSpeed_2 : decode cX7_setSpeed 2 = .ok (.iconst 3, 1) := by decide +kernel
theorem dX7_setSpeed_3 : decode cX7_setSpeed 3 = .ok (.invokestatic 90, 3) := by decide +kernel
theorem dX7_setSpeed_6 : decode cX7_setSpeed 6 = .ok (.ifCond .ne 6, 3) := by decide +kernel
theorem dX7_setSpeed_9 : decode cX7_setSpeed 9 = .ok (.bipush (-2), 2) := by decide +kernel
theorem dX7_setSpeed_11 : decode cX7_setSpeed 11 = .ok (.ireturn, 1) := by decide +kernel
theorem dX7_setSpeed_12 : decode cX7_setSpeed 12 = .ok (.aload_n 0, 1) := by decide +kernel
theorem dX7_setSpeed_13 : decode cX7_setSpeed 13 = .ok (.invokevirtual 72, 3) := by decide +kernel
theorem dX7_setSpeed_16 : decode cX7_setSpeed 16 = .ok (.aload_n 0, 1) := by decide +kernel
theorem dX7_setSpeed_17 : decode cX7_setSpeed 17 = .ok (.getfield 12, 3) := by decide +kernel
theorem dX7_setSpeed_20 : decode cX7_setSpeed 20 = .ok (.getfield 56, 3) := by decide +kernel
theorem dX7_setSpeed_23 : decode cX7_setSpeed 23 = .ok (.getfield 118, 3) := by decide +kernel
theorem dX7_setSpeed_26 : decode cX7_setSpeed 26 = .ok (.istore_n 2, 1) := by decide +kernel
theorem dX7_setSpeed_27 : decode cX7_setSpeed 27 = .ok (.aload_n 0, 1) := by decide +kernel
theorem dX7_setSpeed_28 : decode cX7_setSpeed 28 = .ok (.getfield 12, 3) := by decide +kernel
theorem dX7_setSpeed_31 : decode cX7_setSpeed 31 = .ok (.getfield 56, 3) := by decide +kernel
theorem dX7_setSpeed_34 : decode cX7_setSpeed 34 = .ok (.iload_n 1, 1) := by decide +kernel
theorem dX7_setSpeed_35 : decode cX7_setSpeed 35 = .ok (.putfield 118, 3) := by decide +kernel
theorem dX7_setSpeed_38 : decode cX7_setSpeed 38 = .ok (.iload_n 2, 1) := by decide +kernel
theorem dX7_setSpeed_39 : decode cX7_setSpeed 39 = .ok (.ireturn, 1) := by decide +kernel
theorem dX7_addCard_0 : decode cX7_addCard 0 = .ok (.iload_n 1, 1) := by decide +kernel
theorem dX7_addCard_1 : decode cX7_addCard 1 = .ok (.iconst 0, 1) := by decide +kernel
theorem dX7_addCard_2 : decode cX7_addCard 2 = .ok (.bipush 63, 2) := by decide +kernel
theorem dX7_addCard_4 : decode cX7_addCard 4 = .ok (.invokestatic 90, 3) := by decide +kernel
theorem dX7_addCard_7 : decode cX7_addCard 7 = .ok (.ifCond .ne 6, 3) := by decide +kernel
theorem dX7_addCard_10 : decode cX7_addCard 10 = .ok (.bipush (-2), 2) := by decide +kernel
theorem dX7_addCard_12 : decode cX7_addCard 12 = .ok (.ireturn, 1) := by decide +kernel
theorem dX7_addCard_13 : decode cX7_addCard 13 = .ok (.iconst 0, 1) := by decide +kernel
theorem dX7_addCard_14 : decode cX7_addCard 14 = .ok (.iload_n 2, 1) := by decide +kernel
theorem dX7_addCard_15 : decode cX7_addCard 15 = .ok (.invokestatic 52, 3) := by decide +kernel
theorem dX7_addCard_18 : decode cX7_addCard 18 = .ok (.ifCond .eq 11, 3) := by decide +kernel
theorem dX7_addCard_21 : decode cX7_addCard 21 = .ok (.iconst 1, 1) := by decide +kernel
theorem dX7_addCard_22 : decode cX7_addCard 22 = .ok (.iload_n 3, 1) := by decide +kernel
theorem dX7_addCard_23 : decode cX7_addCard 23 = .ok (.invokestatic 52, 3) := by decide +kernel
theorem dX7_addCard_26 : decode cX7_addCard 26 = .ok (.ifCond .ne 5, 3) := by decide +kernel
theorem dX7_addCard_29 : decode cX7_addCard 29 = .ok (.iconst (-1), 1) := by decide +kernel
theorem dX7_addCard_30 : decode cX7_addCard 30 = .ok (.ireturn, 1) := by decide +kernel
theorem dX7_addCard_31 : decode cX7_addCard 31 = .ok (.aload_n 0, 1) := by decide +kernel
theorem dX7_addCard_32 : decode cX7_addCard 32 = .ok (.getfield 12, 3) := by decide +kernel
theorem dX7_addCard_35 : decode cX7_addCard 35 = .ok (.getfield 56, 3) := by decide +kernel
theorem dX7_addCard_38 : decode cX7_addCard 38 = .ok (.getfield 121, 3) := by decide +kernel
theorem dX7_addCard_41 : decode cX7_addCard 41 = .ok (.astore 4, 2) := by decide +kernel
theorem dX7_addCard_43 : decode cX7_addCard 43 = .ok (.aload 4, 2) := by decide +kernel
theorem dX7_addCard_45 : decode cX7_addCard 45 = .ok (.getfield 125, 3) := by decide +kernel
theorem dX7_addCard_48 : decode cX7_addCard 48 = .ok (.bipush 16, 2) := by decide +kernel
theorem dX7_addCard_50 : decode cX7_addCard 50 = .ok (.if_icmp .lt 6, 3) := by decide +kernel
theorem dX7_addCard_53 : decode cX7_addCard 53 = .ok (.bipush (-4), 2) := by decide +kernel
theorem dX7_addCard_55 : decode cX7_addCard 55 = .ok (.ireturn, 1) := by decide +kernel
theorem dX7_addCard_56 : decode cX7_addCard 56 = .ok (.aload_n 0, 1) := by decide +kernel
theorem dX7_addCard_57 : decode cX7_addCard 57 = .ok (.invokevirtual 72, 3) := by decide +kernel
theorem dX7_addCard_60 : decode cX7_addCard 60 = .ok (.aload 4, 2) := by decide +kernel
theorem dX7_addCard_62 : decode cX7_addCard 62 = .ok (.iload_n 1, 1) := by decide +kernel
theorem dX7_addCard_63 : decode cX7_addCard 63 = .ok (.iload_n 2, 1) := by decide +kernel
theorem dX7_addCard_64 : decode cX7_addCard 64 = .ok (.iload_n 3, 1) := by decide +kernel
theorem dX7_addCard_65 : decode cX7_addCard 65 = .ok (.invokevirtual 130, 3) := by decide +kernel
theorem dX7_addCard_68 : decode cX7_addCard 68 = .ok (.aload 4, 2) := by decide +kernel
theorem dX7_addCard_70 : decode cX7_addCard 70 = .ok (.getfield 125, 3) := by decide +kernel
theorem dX7_addCard_73 : decode cX7_addCard 73 = .ok (.iconst 1, 1) := by decide +kernel
theorem dX7_addCard_74 : decode cX7_addCard 74 = .ok (.isub, 1) := by decide +kernel
theorem dX7_addCard_75 : decode cX7_addCard 75 = .ok (.ireturn, 1) := by decide +kernel
theorem dX7_removeCard_0 : decode cX7_removeCard 0 = .ok (.aload_n 0, 1) := by decide +kernel
theorem dX7_removeCard_1 : decode cX7_removeCard 1 = .ok (.getfield 12, 3) := by decide +kernel
theorem dX7_removeCard_4 : decode cX7_removeCard 4 = .ok (.getfield 56, 3) := by decide +kernel
theorem dX7_removeCard_7 : decode cX7_removeCard 7 = .ok (.getfield 121, 3) := by decide +kernel
theorem dX7_removeCard_10 : decode cX7_removeCard 10 = .ok (.astore_n 2, 1) := by decide +kernel
theorem dX7_removeCard_11 : decode cX7_removeCard 11 = .ok (.aload_n 2, 1) := by decide +kernel
theorem dX7_removeCard_12 : decode cX7_removeCard 12 = .ok (.iload_n 1, 1) := by decide +kernel
theorem dX7_removeCard_13 : decode cX7_removeCard 13 = .ok (.invokevirtual 133, 3) := by decide +kernel
theorem dX7_removeCard_16 : decode cX7_removeCard 16 = .ok (.ifCond .ne 5, 3) := by decide +kernel
theorem dX7_removeCard_19 : decode cX7_removeCard 19 = .ok (.iconst (-1), 1) := by decide +kernel
theorem dX7_removeCard_20 : decode cX7_removeCard 20 = .ok (.ireturn, 1) := by decide +kernel
theorem dX7_removeCard_21 : decode cX7_removeCard 21 = .ok (.aload_n 0, 1) := by decide +kernel
theorem dX7_removeCard_22 : decode cX7_removeCard 22 = .ok (.invokevirtual 72, 3) := by decide +kernel
theorem dX7_removeCard_25 : decode cX7_removeCard 25 = .ok (.aload_n 2, 1) := by decide +kernel
theorem dX7_removeCard_26 : decode cX7_removeCard 26 = .ok (.iload_n 1, 1) := by decide +kernel
theorem dX7_removeCard_27 : decode cX7_removeCard 27 = .ok (.invokevirtual 136, 3) := by decide +kernel
theorem dX7_removeCard_30 : decode cX7_removeCard 30 = .ok (.aload_n 2, 1) := by decide +kernel
theorem dX7_removeCard_31 : decode cX7_removeCard 31 = .ok (.getfield 125, 3) := by decide +kernel
theorem dX7_removeCard_34 : decode cX7_removeCard 34 = .ok (.ireturn, 1) := by decide +kernel
theorem dX7_turnTo_0 : decode cX7_turnTo 0 = .ok (.aload_n 0, 1) := by decide +kernel
theorem dX7_turnTo_1 : decode cX7_turnTo 1 = .ok (.getfield 12, 3) := by decide +kernel
theorem dX7_turnTo_4 : decode cX7_turnTo 4 = .ok (.getfield 56, 3) := by decide +kernel
theorem dX7_turnTo_7 : decode cX7_turnTo 7 = .ok (.getfield 121, 3) := by decide +kernel
theorem dX7_turnTo_10 : decode cX7_turnTo 10 = .ok (.astore_n 2, 1) := by decide +kernel
theorem dX7_turnTo_11 : decode cX7_turnTo 11 = .ok (.aload_n 2, 1) := by decide +kernel
theorem dX7_turnTo_12 : decode cX7_turnTo 12 = .ok (.iload_n 1, 1) := by decide +kernel
theorem dX7_turnTo_13 : decode cX7_turnTo 13 = .ok (.invokevirtual 133, 3) := by decide +kernel
theorem dX7_turnTo_16 : decode cX7_turnTo 16 = .ok (.ifCond .ne 5, 3) := by decide +kernel
theorem dX7_turnTo_19 : decode cX7_turnTo 19 = .ok (.iconst (-1), 1) := by decide +kernel
theorem dX7_turnTo_20 : decode cX7_turnTo 20 = .ok (.ireturn, 1) := by decide +kernel
theorem dX7_turnTo_21 : decode cX7_turnTo 21 = .ok (.aload_n 0, 1) := by decide +kernel
theorem dX7_turnTo_22 : decode cX7_turnTo 22 = .ok (.invokevirtual 72, 3) := by decide +kernel
theorem dX7_turnTo_25 : decode cX7_turnTo 25 = .ok (.aload_n 2, 1) := by decide +kernel
theorem dX7_turnTo_26 : decode cX7_turnTo 26 = .ok (.getfield 140, 3) := by decide +kernel
theorem dX7_turnTo_29 : decode cX7_turnTo 29 = .ok (.istore_n 3, 1) := by decide +kernel
theorem dX7_turnTo_30 : decode cX7_turnTo 30 = .ok (.aload_n 2, 1) := by decide +kernel
theorem dX7_turnTo_31 : decode cX7_turnTo 31 = .ok (.iload_n 1, 1) := by decide +kernel
theorem dX7_turnTo_32 : decode cX7_turnTo 32 = .ok (.putfield 140, 3) := by decide +kernel
theorem dX7_turnTo_35 : decode cX7_turnTo 35 = .ok (.iload_n 3, 1) := by decide +kernel
theorem dX7_turnTo_36 : decode cX7_turnTo 36 = .ok (.ireturn, 1) := by decide +kernel
theorem dX7_weave_0 : decode cX7_weave 0 = .ok (.iload_n 1, 1) := by decide +kernel
theorem dX7_weave_1 : decode cX7_weave 1 = .ok (.iconst 1, 1) := by decide +kernel
theorem dX7_weave_2 : decode cX7_weave 2 = .ok (.bipush 99, 2) := by decide +kernel
theorem dX7_weave_4 : decode cX7_weave 4 = .ok (.invokestatic 90, 3) := by decide +kernel
theorem dX7_weave_7 : decode cX7_weave 7 = .ok (.ifCond .ne 6, 3) := by decide +kernel
theorem dX7_weave_10 : decode cX7_weave 10 = .ok (.bipush (-2), 2) := by decide +kernel
theorem dX7_weave_12 : decode cX7_weave 12 = .ok (.ireturn, 1) := by decide +kernel
theorem dX7_weave_13 : decode cX7_weave 13 = .ok (.aload_n 0, 1) := by decide +kernel
theorem dX7_weave_14 : decode cX7_weave 14 = .ok (.invokevirtual 142, 3) := by decide +kernel
theorem dX7_weave_17 : decode cX7_weave 17 = .ok (.iconst 0, 1) := by decide +kernel
theorem dX7_weave_18 : decode cX7_weave 18 = .ok (.istore_n 2, 1) := by decide +kernel
theorem dX7_weave_19 : decode cX7_weave 19 = .ok (.iload_n 2, 1) := by decide +kernel
theorem dX7_weave_20 : decode cX7_weave 20 = .ok (.iload_n 1, 1) := by decide +kernel
theorem dX7_weave_21 : decode cX7_weave 21 = .ok (.if_icmp .ge 41, 3) := by decide +kernel
theorem dX7_weave_24 : decode cX7_weave 24 = .ok (.aload_n 0, 1) := by decide +kernel
theorem dX7_weave_25 : decode cX7_weave 25 = .ok (.getfield 12, 3) := by decide +kernel
theorem dX7_weave_28 : decode cX7_weave 28 = .ok (.getfield 56, 3) := by decide +kernel
theorem dX7_weave_31 : decode cX7_weave 31 = .ok (.invokevirtual 145, 3) := by decide +kernel
theorem dX7_weave_34 : decode cX7_weave 34 = .ok (.istore_n 3, 1) := by decide +kernel
theorem dX7_weave_35 : decode cX7_weave 35 = .ok (.iload_n 3, 1) := by decide +kernel
theorem dX7_weave_36 : decode cX7_weave 36 = .ok (.ifCond .eq 13, 3) := by decide +kernel
theorem dX7_weave_39 : decode cX7_weave 39 = .ok (.aload_n 0, 1) := by decide +kernel
theorem dX7_weave_40 : decode cX7_weave 40 = .ok (.getfield 12, 3) := by decide +kernel
theorem dX7_weave_43 : decode cX7_weave 43 = .ok (.iload_n 3, 1) := by decide +kernel
theorem dX7_weave_44 : decode cX7_weave 44 = .ok (.invokevirtual 148, 3) := by decide +kernel
theorem dX7_weave_47 : decode cX7_weave 47 = .ok (.iload_n 2, 1) := by decide +kernel
theorem dX7_weave_48 : decode cX7_weave 48 = .ok (.ireturn, 1) := by decide +kernel
theorem dX7_weave_49 : decode cX7_weave 49 = .ok (.aload_n 0, 1) := by decide +kernel
theorem dX7_weave_50 : decode cX7_weave 50 = .ok (.getfield 12, 3) := by decide +kernel
theorem dX7_weave_53 : decode cX7_weave 53 = .ok (.invokevirtual 151, 3) := by decide +kernel
theorem dX7_weave_56 : decode cX7_weave 56 = .ok (.iinc 2 1, 3) := by decide +kernel
theorem dX7_weave_59 : decode cX7_weave 59 = .ok (.goto (-40), 3) := by decide +kernel
theorem dX7_weave_62 : decode cX7_weave 62 = .ok (.iload_n 1, 1) := by decide +kernel
theorem dX7_weave_63 : decode cX7_weave 63 = .ok (.ireturn, 1) := by decide +kernel
theorem dX7_takeBack_0 : decode cX7_takeBack 0 = .ok (.aload_n 0, 1) := by decide +kernel
theorem dX7_takeBack_1 : decode cX7_takeBack 1 = .ok (.getfield 12, 3) := by decide +kernel
theorem dX7_takeBack_4 : decode cX7_takeBack 4 = .ok (.getfield 154, 3) := by decide +kernel
theorem dX7_takeBack_7 : decode cX7_takeBack 7 = .ok (.ifCond .gt 6, 3) := by decide +kernel
theorem dX7_takeBack_10 : decode cX7_takeBack 10 = .ok (.bipush (-3), 2) := by decide +kernel
theorem dX7_takeBack_12 : decode cX7_takeBack 12 = .ok (.ireturn, 1) := by decide +kernel
theorem dX7_takeBack_13 : decode cX7_takeBack 13 = .ok (.aload_n 0, 1) := by decide +kernel
theorem dX7_takeBack_14 : decode cX7_takeBack 14 = .ok (.invokevirtual 142, 3) := by decide +kernel
theorem dX7_takeBack_17 : decode cX7_takeBack 17 = .ok (.aload_n 0, 1) := by decide +kernel
theorem dX7_takeBack_18 : decode cX7_takeBack 18 = .ok (.getfield 12, 3) := by decide +kernel
theorem dX7_takeBack_21 : decode cX7_takeBack 21 = .ok (.invokevirtual 157, 3) := by decide +kernel
theorem dX7_takeBack_24 : decode cX7_takeBack 24 = .ok (.aload_n 0, 1) := by decide +kernel
theorem dX7_takeBack_25 : decode cX7_takeBack 25 = .ok (.getfield 12, 3) := by decide +kernel
theorem dX7_takeBack_28 : decode cX7_takeBack 28 = .ok (.getfield 56, 3) := by decide +kernel
theorem dX7_takeBack_31 : decode cX7_takeBack 31 = .ok (.getfield 121, 3) := by decide +kernel
theorem dX7_takeBack_34 : decode cX7_takeBack 34 = .ok (.getfield 140, 3) := by decide +kernel
theorem dX7_takeBack_37 : decode cX7_takeBack 37 = .ok (.ireturn, 1) := by decide +kernel
theorem dX7_count_0 : decode cX7_count 0 = .ok (.aload_n 0, 1) := by decide +kernel
theorem dX7_count_1 : decode cX7_count 1 = .ok (.getfield 12, 3) := by decide +kernel
theorem dX7_count_4 : decode cX7_count 4 = .ok (.getfield 56, 3) := by decide +kernel
theorem dX7_count_7 : decode cX7_count 7 = .ok (.astore_n 2, 1) := by decide +kernel
theorem dX7_count_8 : decode cX7_count 8 = .ok (.iload_n 1, 1) := by decide +kernel
theorem dX7_count_9 : decode cX7_count 9 = .ok (.tableswitch 154 0 11 #[63, 71, 79, 84, 91, 98, 103, 111, 122, 130, 138, 146], 63) := by decide +kernel
theorem dX7_count_72 : decode cX7_count 72 = .ok (.aload_n 2, 1) := by decide +kernel
theorem dX7_count_73 : decode cX7_count 73 = .ok (.getfield 121, 3) := by decide +kernel
theorem dX7_count_76 : decode cX7_count 76 = .ok (.getfield 125, 3) := by decide +kernel
theorem dX7_count_79 : decode cX7_count 79 = .ok (.ireturn, 1) := by decide +kernel
theorem dX7_count_80 : decode cX7_count 80 = .ok (.aload_n 2, 1) := by decide +kernel
theorem dX7_count_81 : decode cX7_count 81 = .ok (.getfield 121, 3) := by decide +kernel
theorem dX7_count_84 : decode cX7_count 84 = .ok (.getfield 140, 3) := by decide +kernel
theorem dX7_count_87 : decode cX7_count 87 = .ok (.ireturn, 1) := by decide +kernel
theorem dX7_count_88 : decode cX7_count 88 = .ok (.aload_n 2, 1) := by decide +kernel
theorem dX7_count_89 : decode cX7_count 89 = .ok (.getfield 118, 3) := by decide +kernel
theorem dX7_count_92 : decode cX7_count 92 = .ok (.ireturn, 1) := by decide +kernel
theorem dX7_count_93 : decode cX7_count 93 = .ok (.aload_n 2, 1) := by decide +kernel
theorem dX7_count_94 : decode cX7_count 94 = .ok (.getfield 100, 3) := by decide +kernel
theorem dX7_count_97 : decode cX7_count 97 = .ok (.iconst 0, 1) := by decide +kernel
theorem dX7_count_98 : decode cX7_count 98 = .ok (.iaload, 1) := by decide +kernel
theorem dX7_count_99 : decode cX7_count 99 = .ok (.ireturn, 1) := by decide +kernel
theorem dX7_count_100 : decode cX7_count 100 = .ok (.aload_n 2, 1) := by decide +kernel
theorem dX7_count_101 : decode cX7_count 101 = .ok (.getfield 100, 3) := by decide +kernel
theorem dX7_count_104 : decode cX7_count 104 = .ok (.iconst 1, 1) := by decide +kernel
theorem dX7_count_105 : decode cX7_count 105 = .ok (.iaload, 1) := by decide +kernel
theorem dX7_count_106 : decode cX7_count 106 = .ok (.ireturn, 1) := by decide +kernel
theorem dX7_count_107 : decode cX7_count 107 = .ok (.aload_n 2, 1) := by decide +kernel
theorem dX7_count_108 : decode cX7_count 108 = .ok (.getfield 160, 3) := by decide +kernel
theorem dX7_count_111 : decode cX7_count 111 = .ok (.ireturn, 1) := by decide +kernel
theorem dX7_count_112 : decode cX7_count 112 = .ok (.aload_n 0, 1) := by decide +kernel
theorem dX7_count_113 : decode cX7_count 113 = .ok (.getfield 12, 3) := by decide +kernel
theorem dX7_count_116 : decode cX7_count 116 = .ok (.getfield 163, 3) := by decide +kernel
theorem dX7_count_119 : decode cX7_count 119 = .ok (.ireturn, 1) := by decide +kernel
theorem dX7_count_120 : decode cX7_count 120 = .ok (.aload_n 0, 1) := by decide +kernel
theorem dX7_count_121 : decode cX7_count 121 = .ok (.getfield 12, 3) := by decide +kernel
theorem dX7_count_124 : decode cX7_count 124 = .ok (.getfield 166, 3) := by decide +kernel
theorem dX7_count_127 : decode cX7_count 127 = .ok (.getfield 170, 3) := by decide +kernel
theorem dX7_count_130 : decode cX7_count 130 = .ok (.ireturn, 1) := by decide +kernel
theorem dX7_count_131 : decode cX7_count 131 = .ok (.aload_n 0, 1) := by decide +kernel
theorem dX7_count_132 : decode cX7_count 132 = .ok (.getfield 12, 3) := by decide +kernel
theorem dX7_count_135 : decode cX7_count 135 = .ok (.getfield 154, 3) := by decide +kernel
theorem dX7_count_138 : decode cX7_count 138 = .ok (.ireturn, 1) := by decide +kernel
theorem dX7_count_139 : decode cX7_count 139 = .ok (.aload_n 0, 1) := by decide +kernel
theorem dX7_count_140 : decode cX7_count 140 = .ok (.getfield 12, 3) := by decide +kernel
theorem dX7_count_143 : decode cX7_count 143 = .ok (.getfield 175, 3) := by decide +kernel
theorem dX7_count_146 : decode cX7_count 146 = .ok (.ireturn, 1) := by decide +kernel
theorem dX7_count_147 : decode cX7_count 147 = .ok (.aload_n 0, 1) := by decide +kernel
theorem dX7_count_148 : decode cX7_count 148 = .ok (.getfield 12, 3) := by decide +kernel
theorem dX7_count_151 : decode cX7_count 151 = .ok (.getfield 178, 3) := by decide +kernel
theorem dX7_count_154 : decode cX7_count 154 = .ok (.ireturn, 1) := by decide +kernel
theorem dX7_count_155 : decode cX7_count 155 = .ok (.aload_n 0, 1) := by decide +kernel
theorem dX7_count_156 : decode cX7_count 156 = .ok (.getfield 12, 3) := by decide +kernel
theorem dX7_count_159 : decode cX7_count 159 = .ok (.getfield 181, 3) := by decide +kernel
theorem dX7_count_162 : decode cX7_count 162 = .ok (.ireturn, 1) := by decide +kernel
theorem dX7_count_163 : decode cX7_count 163 = .ok (.bipush (-2), 2) := by decide +kernel
theorem dX7_count_165 : decode cX7_count 165 = .ok (.ireturn, 1) := by decide +kernel
theorem dX7_shuttle_0 : decode cX7_shuttle 0 = .ok (.iload_n 1, 1) := by decide +kernel
theorem dX7_shuttle_1 : decode cX7_shuttle 1 = .ok (.invokestatic 48, 3) := by decide +kernel
theorem dX7_shuttle_4 : decode cX7_shuttle 4 = .ok (.ifCond .ne 5, 3) := by decide +kernel
theorem dX7_shuttle_7 : decode cX7_shuttle 7 = .ok (.iconst (-1), 1) := by decide +kernel
theorem dX7_shuttle_8 : decode cX7_shuttle 8 = .ok (.ireturn, 1) := by decide +kernel
theorem dX7_shuttle_9 : decode cX7_shuttle 9 = .ok (.aload_n 0, 1) := by decide +kernel
theorem dX7_shuttle_10 : decode cX7_shuttle 10 = .ok (.getfield 12, 3) := by decide +kernel
theorem dX7_shuttle_13 : decode cX7_shuttle 13 = .ok (.getfield 56, 3) := by decide +kernel
theorem dX7_shuttle_16 : decode cX7_shuttle 16 = .ok (.getfield 59, 3) := by decide +kernel
theorem dX7_shuttle_19 : decode cX7_shuttle 19 = .ok (.astore_n 3, 1) := by decide +kernel
theorem dX7_shuttle_20 : decode cX7_shuttle 20 = .ok (.iload_n 2, 1) := by decide +kernel
theorem dX7_shuttle_21 : decode cX7_shuttle 21 = .ok (.tableswitch 59 0 3 #[31, 38, 45, 52], 31) := by decide +kernel
theorem dX7_shuttle_52 : decode cX7_shuttle 52 = .ok (.aload_n 3, 1) := by decide +kernel
theorem dX7_shuttle_53 : decode cX7_shuttle 53 = .ok (.getfield 97, 3) := by decide +kernel
theorem dX7_shuttle_56 : decode cX7_shuttle 56 = .ok (.iload_n 1, 1) := by decide +kernel
theorem dX7_shuttle_57 : decode cX7_shuttle 57 = .ok (.iaload, 1) := by decide +kernel
theorem dX7_shuttle_58 : decode cX7_shuttle 58 = .ok (.ireturn, 1) := by decide +kernel
theorem dX7_shuttle_59 : decode cX7_shuttle 59 = .ok (.aload_n 3, 1) := by decide +kernel
theorem dX7_shuttle_60 : decode cX7_shuttle 60 = .ok (.getfield 94, 3) := by decide +kernel
theorem dX7_shuttle_63 : decode cX7_shuttle 63 = .ok (.iload_n 1, 1) := by decide +kernel
theorem dX7_shuttle_64 : decode cX7_shuttle 64 = .ok (.iaload, 1) := by decide +kernel
theorem dX7_shuttle_65 : decode cX7_shuttle 65 = .ok (.ireturn, 1) := by decide +kernel
theorem dX7_shuttle_66 : decode cX7_shuttle 66 = .ok (.aload_n 3, 1) := by decide +kernel
theorem dX7_shuttle_67 : decode cX7_shuttle 67 = .ok (.getfield 83, 3) := by decide +kernel
theorem dX7_shuttle_70 : decode cX7_shuttle 70 = .ok (.iload_n 1, 1) := by decide +kernel
theorem dX7_shuttle_71 : decode cX7_shuttle 71 = .ok (.iaload, 1) := by decide +kernel
theorem dX7_shuttle_72 : decode cX7_shuttle 72 = .ok (.ireturn, 1) := by decide +kernel
theorem dX7_shuttle_73 : decode cX7_shuttle 73 = .ok (.aload_n 3, 1) := by decide +kernel
theorem dX7_shuttle_74 : decode cX7_shuttle 74 = .ok (.getfield 87, 3) := by decide +kernel
theorem dX7_shuttle_77 : decode cX7_shuttle 77 = .ok (.iload_n 1, 1) := by decide +kernel
theorem dX7_shuttle_78 : decode cX7_shuttle 78 = .ok (.iaload, 1) := by decide +kernel
theorem dX7_shuttle_79 : decode cX7_shuttle 79 = .ok (.ireturn, 1) := by decide +kernel
theorem dX7_shuttle_80 : decode cX7_shuttle 80 = .ok (.bipush (-2), 2) := by decide +kernel
theorem dX7_shuttle_82 : decode cX7_shuttle 82 = .ok (.ireturn, 1) := by decide +kernel
theorem dX7_inBox_0 : decode cX7_inBox 0 = .ok (.iload_n 1, 1) := by decide +kernel
theorem dX7_inBox_1 : decode cX7_inBox 1 = .ok (.iload_n 2, 1) := by decide +kernel
theorem dX7_inBox_2 : decode cX7_inBox 2 = .ok (.invokestatic 52, 3) := by decide +kernel
theorem dX7_inBox_5 : decode cX7_inBox 5 = .ok (.ifCond .eq 21, 3) := by decide +kernel
theorem dX7_inBox_8 : decode cX7_inBox 8 = .ok (.aload_n 0, 1) := by decide +kernel
theorem dX7_inBox_9 : decode cX7_inBox 9 = .ok (.getfield 12, 3) := by decide +kernel
theorem dX7_inBox_12 : decode cX7_inBox 12 = .ok (.getfield 56, 3) := by decide +kernel
theorem dX7_inBox_15 : decode cX7_inBox 15 = .ok (.getfield 59, 3) := by decide +kernel
theorem dX7_inBox_18 : decode cX7_inBox 18 = .ok (.iload_n 1, 1) := by decide +kernel
theorem dX7_inBox_19 : decode cX7_inBox 19 = .ok (.iload_n 2, 1) := by decide +kernel
theorem dX7_inBox_20 : decode cX7_inBox 20 = .ok (.invokevirtual 68, 3) := by decide +kernel
theorem dX7_inBox_23 : decode cX7_inBox 23 = .ok (.goto 4, 3) := by decide +kernel
theorem dX7_inBox_26 : decode cX7_inBox 26 = .ok (.iconst (-1), 1) := by decide +kernel
theorem dX7_inBox_27 : decode cX7_inBox 27 = .ok (.ireturn, 1) := by decide +kernel
theorem dX7_thread_0 : decode cX7_thread 0 = .ok (.iload_n 1, 1) := by decide +kernel
theorem dX7_thread_1 : decode cX7_thread 1 = .ok (.invokestatic 103, 3) := by decide +kernel
theorem dX7_thread_4 : decode cX7_thread 4 = .ok (.ifCond .ne 5, 3) := by decide +kernel
theorem dX7_thread_7 : decode cX7_thread 7 = .ok (.iconst (-1), 1) := by decide +kernel
theorem dX7_thread_8 : decode cX7_thread 8 = .ok (.ireturn, 1) := by decide +kernel
theorem dX7_thread_9 : decode cX7_thread 9 = .ok (.aload_n 0, 1) := by decide +kernel
theorem dX7_thread_10 : decode cX7_thread 10 = .ok (.getfield 12, 3) := by decide +kernel
theorem dX7_thread_13 : decode cX7_thread 13 = .ok (.getfield 56, 3) := by decide +kernel
theorem dX7_thread_16 : decode cX7_thread 16 = .ok (.getfield 106, 3) := by decide +kernel
theorem dX7_thread_19 : decode cX7_thread 19 = .ok (.astore_n 3, 1) := by decide +kernel
theorem dX7_thread_20 : decode cX7_thread 20 = .ok (.iload_n 2, 1) := by decide +kernel
theorem dX7_thread_21 : decode cX7_thread 21 = .ok (.tableswitch 69 0 2 #[27, 34, 41], 27) := by decide +kernel
theorem dX7_thread_48 : decode cX7_thread 48 = .ok (.aload_n 3, 1) := by decide +kernel
theorem dX7_thread_49 : decode cX7_thread 49 = .ok (.getfield 110, 3) := by decide +kernel
theorem dX7_thread_52 : decode cX7_thread 52 = .ok (.iload_n 1, 1) := by decide +kernel
theorem dX7_thread_53 : decode cX7_thread 53 = .ok (.iaload, 1) := by decide +kernel
theorem dX7_thread_54 : decode cX7_thread 54 = .ok (.ireturn, 1) := by decide +kernel
theorem dX7_thread_55 : decode cX7_thread 55 = .ok (.aload_n 3, 1) := by decide +kernel
theorem dX7_thread_56 : decode cX7_thread 56 = .ok (.getfield 115, 3) := by decide +kernel
theorem dX7_thread_59 : decode cX7_thread 59 = .ok (.iload_n 1, 1) := by decide +kernel
theorem dX7_thread_60 : decode cX7_thread 60 = .ok (.iaload, 1) := by decide +kernel
theorem dX7_thread_61 : decode cX7_thread 61 = .ok (.ireturn, 1) := by decide +kernel
theorem dX7_thread_62 : decode cX7_thread 62 = .ok (.aload_n 0, 1) := by decide +kernel
theorem dX7_thread_63 : decode cX7_thread 63 = .ok (.getfield 12, 3) := by decide +kernel
theorem dX7_thread_66 : decode cX7_thread 66 = .ok (.getfield 56, 3) := by decide +kernel
theorem dX7_thread_69 : decode cX7_thread 69 = .ok (.getfield 160, 3) := by decide +kernel
theorem dX7_thread_72 : decode cX7_thread 72 = .ok (.aload_n 3, 1) := by decide +kernel
theorem dX7_thread_73 : decode cX7_thread 73 = .ok (.getfield 110, 3) := by decide +kernel
theorem dX7_thread_76 : decode cX7_thread 76 = .ok (.iload_n 1, 1) := by decide +kernel
theorem dX7_thread_77 : decode cX7_thread 77 = .ok (.iaload, 1) := by decide +kernel
theorem dX7_thread_78 : decode cX7_thread 78 = .ok (.invokestatic 184, 3) := by decide +kernel
theorem dX7_thread_81 : decode cX7_thread 81 = .ok (.ifCond .eq 7, 3) := by decide +kernel
theorem dX7_thread_84 : decode cX7_thread 84 = .ok (.iconst 1, 1) := by decide +kernel
theorem dX7_thread_85 : decode cX7_thread 85 = .ok (.goto 4, 3) := by decide +kernel
theorem dX7_thread_88 : decode cX7_thread 88 = .ok (.iconst 0, 1) := by decide +kernel
theorem dX7_thread_89 : decode cX7_thread 89 = .ok (.ireturn, 1) := by decide +kernel
theorem dX7_thread_90 : decode cX7_thread 90 = .ok (.bipush (-2), 2) := by decide +kernel
theorem dX7_thread_92 : decode cX7_thread 92 = .ok (.ireturn, 1) := by decide +kernel
theorem dX7_card_0 : decode cX7_card 0 = .ok (.aload_n 0, 1) := by decide +kernel
theorem dX7_card_1 : decode cX7_card 1 = .ok (.getfield 12, 3) := by decide +kernel
theorem dX7_card_4 : decode cX7_card 4 = .ok (.getfield 56, 3) := by decide +kernel
theorem dX7_card_7 : decode cX7_card 7 = .ok (.getfield 121, 3) := by decide +kernel
theorem dX7_card_10 : decode cX7_card 10 = .ok (.astore_n 3, 1) := by decide +kernel
theorem dX7_card_11 : decode cX7_card 11 = .ok (.aload_n 3, 1) := by decide +kernel
theorem dX7_card_12 : decode cX7_card 12 = .ok (.iload_n 1, 1) := by decide +kernel
theorem dX7_card_13 : decode cX7_card 13 = .ok (.invokevirtual 133, 3) := by decide +kernel
theorem dX7_card_16 : decode cX7_card 16 = .ok (.ifCond .ne 5, 3) := by decide +kernel
theorem dX7_card_19 : decode cX7_card 19 = .ok (.iconst (-1), 1) := by decide +kernel
theorem dX7_card_20 : decode cX7_card 20 = .ok (.ireturn, 1) := by decide +kernel
theorem dX7_card_21 : decode cX7_card 21 = .ok (.iload_n 2, 1) := by decide +kernel
theorem dX7_card_22 : decode cX7_card 22 = .ok (.tableswitch 69 0 3 #[30, 36, 43, 50], 30) := by decide +kernel
theorem dX7_card_52 : decode cX7_card 52 = .ok (.aload_n 3, 1) := by decide +kernel
theorem dX7_card_53 : decode cX7_card 53 = .ok (.iload_n 1, 1) := by decide +kernel
theorem dX7_card_54 : decode cX7_card 54 = .ok (.invokevirtual 187, 3) := by decide +kernel
theorem dX7_card_57 : decode cX7_card 57 = .ok (.ireturn, 1) := by decide +kernel
theorem dX7_card_58 : decode cX7_card 58 = .ok (.aload_n 3, 1) := by decide +kernel
theorem dX7_card_59 : decode cX7_card 59 = .ok (.iload_n 1, 1) := by decide +kernel
theorem dX7_card_60 : decode cX7_card 60 = .ok (.iconst 0, 1) := by decide +kernel
theorem dX7_card_61 : decode cX7_card 61 = .ok (.invokevirtual 191, 3) := by decide +kernel
theorem dX7_card_64 : decode cX7_card 64 = .ok (.ireturn, 1) := by decide +kernel
theorem dX7_card_65 : decode cX7_card 65 = .ok (.aload_n 3, 1) := by decide +kernel
theorem dX7_card_66 : decode cX7_card 66 = .ok (.iload_n 1, 1) := by decide +kernel
theorem dX7_card_67 : decode cX7_card 67 = .ok (.iconst 1, 1) := by decide +kernel
theorem dX7_card_68 : decode cX7_card 68 = .ok (.invokevirtual 191, 3) := by decide +kernel
theorem dX7_card_71 : decode cX7_card 71 = .ok (.ireturn, 1) := by decide +kernel
theorem dX7_card_72 : decode cX7_card 72 = .ok (.aload_n 0, 1) := by decide +kernel
theorem dX7_card_73 : decode cX7_card 73 = .ok (.getfield 12, 3) := by decide +kernel
theorem dX7_card_76 : decode cX7_card 76 = .ok (.getfield 56, 3) := by decide +kernel
theorem dX7_card_79 : decode cX7_card 79 = .ok (.getfield 106, 3) := by decide +kernel
theorem dX7_card_82 : decode cX7_card 82 = .ok (.aload_n 3, 1) := by decide +kernel
theorem dX7_card_83 : decode cX7_card 83 = .ok (.iload_n 1, 1) := by decide +kernel
theorem dX7_card_84 : decode cX7_card 84 = .ok (.invokevirtual 187, 3) := by decide +kernel
theorem dX7_card_87 : decode cX7_card 87 = .ok (.invokevirtual 194, 3) := by decide +kernel
theorem dX7_card_90 : decode cX7_card 90 = .ok (.ireturn, 1) := by decide +kernel
theorem dX7_card_91 : decode cX7_card 91 = .ok (.bipush (-2), 2) := by decide +kernel
theorem dX7_card_93 : decode cX7_card 93 = .ok (.ireturn, 1) := by decide +kernel
theorem dX7_cloth_0 : decode cX7_cloth 0 = .ok (.aload_n 0, 1) := by decide +kernel
theorem dX7_cloth_1 : decode cX7_cloth 1 = .ok (.getfield 12, 3) := by decide +kernel
theorem dX7_cloth_4 : decode cX7_cloth 4 = .ok (.getfield 166, 3) := by decide +kernel
theorem dX7_cloth_7 : decode cX7_cloth 7 = .ok (.iload_n 1, 1) := by decide +kernel
theorem dX7_cloth_8 : decode cX7_cloth 8 = .ok (.invokevirtual 197, 3) := by decide +kernel
theorem dX7_cloth_11 : decode cX7_cloth 11 = .ok (.ifCond .eq 10, 3) := by decide +kernel
theorem dX7_cloth_14 : decode cX7_cloth 14 = .ok (.iload_n 2, 1) := by decide +kernel
theorem dX7_cloth_15 : decode cX7_cloth 15 = .ok (.invokestatic 103, 3) := by decide +kernel
theorem dX7_cloth_18 : decode cX7_cloth 18 = .ok (.ifCond .ne 5, 3) := by decide +kernel
theorem dX7_cloth_21 : decode cX7_cloth 21 = .ok (.iconst (-1), 1) := by decide +kernel
theorem dX7_cloth_22 : decode cX7_cloth 22 = .ok (.ireturn, 1) := by decide +kernel
theorem dX7_cloth_23 : decode cX7_cloth 23 = .ok (.aload_n 0, 1) := by decide +kernel
theorem dX7_cloth_24 : decode cX7_cloth 24 = .ok (.getfield 12, 3) := by decide +kernel
theorem dX7_cloth_27 : decode cX7_cloth 27 = .ok (.getfield 166, 3) := by decide +kernel
theorem dX7_cloth_30 : decode cX7_cloth 30 = .ok (.iload_n 1, 1) := by decide +kernel
theorem dX7_cloth_31 : decode cX7_cloth 31 = .ok (.iload_n 2, 1) := by decide +kernel
theorem dX7_cloth_32 : decode cX7_cloth 32 = .ok (.invokevirtual 198, 3) := by decide +kernel
theorem dX7_cloth_35 : decode cX7_cloth 35 = .ok (.ifCond .eq 10, 3) := by decide +kernel
theorem dX7_cloth_38 : decode cX7_cloth 38 = .ok (.bipush 100, 2) := by decide +kernel
theorem dX7_cloth_40 : decode cX7_cloth 40 = .ok (.iload_n 2, 1) := by decide +kernel
theorem dX7_cloth_41 : decode cX7_cloth 41 = .ok (.iadd, 1) := by decide +kernel
theorem dX7_cloth_42 : decode cX7_cloth 42 = .ok (.goto 14, 3) := by decide +kernel
theorem dX7_cloth_45 : decode cX7_cloth 45 = .ok (.aload_n 0, 1) := by decide +kernel
theorem dX7_cloth_46 : decode cX7_cloth 46 = .ok (.getfield 12, 3) := by decide +kernel
theorem dX7_cloth_49 : decode cX7_cloth 49 = .ok (.getfield 166, 3) := by decide +kernel
theorem dX7_cloth_52 : decode cX7_cloth 52 = .ok (.iload_n 1, 1) := by decide +kernel
theorem dX7_cloth_53 : decode cX7_cloth 53 = .ok (.invokevirtual 201, 3) := by decide +kernel
theorem dX7_cloth_56 : decode cX7_cloth 56 = .ok (.ireturn, 1) := by decide +kernel
theorem dX7_longestFloat_0 : decode cX7_longestFloat 0 = .ok (.iload_n 1, 1) := by decide +kernel
theorem dX7_longestFloat_1 : decode cX7_longestFloat 1 = .ok (.invokestatic 103, 3) := by decide +kernel
theorem dX7_longestFloat_4 : decode cX7_longestFloat 4 = .ok (.ifCond .eq 17, 3) := by decide +kernel
theorem dX7_longestFloat_7 : decode cX7_longestFloat 7 = .ok (.aload_n 0, 1) := by decide +kernel
theorem dX7_longestFloat_8 : decode cX7_longestFloat 8 = .ok (.getfield 12, 3) := by decide +kernel
theorem dX7_longestFloat_11 : decode cX7_longestFloat 11 = .ok (.getfield 166, 3) := by decide +kernel
theorem dX7_longestFloat_14 : decode cX7_longestFloat 14 = .ok (.iload_n 1, 1) := by decide +kernel
theorem dX7_longestFloat_15 : decode cX7_longestFloat 15 = .ok (.invokevirtual 204, 3) := by decide +kernel
theorem dX7_longestFloat_18 : decode cX7_longestFloat 18 = .ok (.goto 4, 3) := by decide +kernel
theorem dX7_longestFloat_21 : decode cX7_longestFloat 21 = .ok (.iconst (-1), 1) := by decide +kernel
theorem dX7_longestFloat_22 : decode cX7_longestFloat 22 = .ok (.ireturn, 1) := by decide +kernel
theorem dX7_whyNot_0 : decode cX7_whyNot 0 = .ok (.aload_n 0, 1) := by decide +kernel
theorem dX7_whyNot_1 : decode cX7_whyNot 1 = .ok (.getfield 12, 3) := by decide +kernel
theorem dX7_whyNot_4 : decode cX7_whyNot 4 = .ok (.getfield 56, 3) := by decide +kernel
theorem dX7_whyNot_7 : decode cX7_whyNot 7 = .ok (.invokevirtual 145, 3) := by decide +kernel
theorem dX7_whyNot_10 : decode cX7_whyNot 10 = .ok (.ireturn, 1) := by decide +kernel
theorem dX7_picksLeft_0 : decode cX7_picksLeft 0 = .ok (.aload_n 0, 1) := by decide +kernel
theorem dX7_picksLeft_1 : decode cX7_picksLeft 1 = .ok (.getfield 30, 3) := by decide +kernel
theorem dX7_picksLeft_4 : decode cX7_picksLeft 4 = .ok (.aload_n 0, 1) := by decide +kernel
theorem dX7_picksLeft_5 : decode cX7_picksLeft 5 = .ok (.getfield 12, 3) := by decide +kernel
theorem dX7_picksLeft_8 : decode cX7_picksLeft 8 = .ok (.getfield 56, 3) := by decide +kernel
theorem dX7_picksLeft_11 : decode cX7_picksLeft 11 = .ok (.invokevirtual 207, 3) := by decide +kernel
theorem dX7_picksLeft_14 : decode cX7_picksLeft 14 = .ok (.iconst 0, 1) := by decide +kernel
theorem dX7_picksLeft_15 : decode cX7_picksLeft 15 = .ok (.istore_n 1, 1) := by decide +kernel
theorem dX7_picksLeft_16 : decode cX7_picksLeft 16 = .ok (.iload_n 1, 1) := by decide +kernel
theorem dX7_picksLeft_17 : decode cX7_picksLeft 17 = .ok (.sipush 200, 3) := by decide +kernel
theorem dX7_picksLeft_20 : decode cX7_picksLeft 20 = .ok (.if_icmp .ge 26, 3) := by decide +kernel
theorem dX7_picksLeft_23 : decode cX7_picksLeft 23 = .ok (.aload_n 0, 1) := by decide +kernel
theorem dX7_picksLeft_24 : decode cX7_picksLeft 24 = .ok (.getfield 30, 3) := by decide +kernel
theorem dX7_picksLeft_27 : decode cX7_picksLeft 27 = .ok (.invokevirtual 145, 3) := by decide +kernel
theorem dX7_picksLeft_30 : decode cX7_picksLeft 30 = .ok (.ifCond .ne 16, 3) := by decide +kernel
theorem dX7_picksLeft_33 : decode cX7_picksLeft 33 = .ok (.aload_n 0, 1) := by decide +kernel
theorem dX7_picksLeft_34 : decode cX7_picksLeft 34 = .ok (.getfield 30, 3) := by decide +kernel
theorem dX7_picksLeft_37 : decode cX7_picksLeft 37 = .ok (.invokevirtual 211, 3) := by decide +kernel
theorem dX7_picksLeft_40 : decode cX7_picksLeft 40 = .ok (.iinc 1 1, 3) := by decide +kernel
theorem dX7_picksLeft_43 : decode cX7_picksLeft 43 = .ok (.goto (-27), 3) := by decide +kernel
theorem dX7_picksLeft_46 : decode cX7_picksLeft 46 = .ok (.iload_n 1, 1) := by decide +kernel
theorem dX7_picksLeft_47 : decode cX7_picksLeft 47 = .ok (.ireturn, 1) := by decide +kernel
theorem dX7_firstEmpty_0 : decode cX7_firstEmpty 0 = .ok (.aload_n 0, 1) := by decide +kernel
theorem dX7_firstEmpty_1 : decode cX7_firstEmpty 1 = .ok (.getfield 30, 3) := by decide +kernel
theorem dX7_firstEmpty_4 : decode cX7_firstEmpty 4 = .ok (.aload_n 0, 1) := by decide +kernel
theorem dX7_firstEmpty_5 : decode cX7_firstEmpty 5 = .ok (.getfield 12, 3) := by decide +kernel
theorem dX7_firstEmpty_8 : decode cX7_firstEmpty 8 = .ok (.getfield 56, 3) := by decide +kernel
theorem dX7_firstEmpty_11 : decode cX7_firstEmpty 11 = .ok (.invokevirtual 207, 3) := by decide +kernel
theorem dX7_firstEmpty_14 : decode cX7_firstEmpty 14 = .ok (.iconst 0, 1) := by decide +kernel
theorem dX7_firstEmpty_15 : decode cX7_firstEmpty 15 = .ok (.istore_n 1, 1) := by decide +kernel
theorem dX7_firstEmpty_16 : decode cX7_firstEmpty 16 = .ok (.iload_n 1, 1) := by decide +kernel
theorem dX7_firstEmpty_17 : decode cX7_firstEmpty 17 = .ok (.sipush 999, 3) := by decide +kernel
theorem dX7_firstEmpty_20 : decode cX7_firstEmpty 20 = .ok (.if_icmp .ge 47, 3) := by decide +kernel
theorem dX7_firstEmpty_23 : decode cX7_firstEmpty 23 = .ok (.aload_n 0, 1) := by decide +kernel
theorem dX7_firstEmpty_24 : decode cX7_firstEmpty 24 = .ok (.getfield 30, 3) := by decide +kernel
theorem dX7_firstEmpty_27 : decode cX7_firstEmpty 27 = .ok (.invokevirtual 212, 3) := by decide +kernel
theorem dX7_firstEmpty_30 : decode cX7_firstEmpty 30 = .ok (.istore_n 2, 1) := by decide +kernel
theorem dX7_firstEmpty_31 : decode cX7_firstEmpty 31 = .ok (.iload_n 2, 1) := by decide +kernel
theorem dX7_firstEmpty_32 : decode cX7_firstEmpty 32 = .ok (.ifCond .eq 22, 3) := by decide +kernel
theorem dX7_firstEmpty_35 : decode cX7_firstEmpty 35 = .ok (.iload_n 2, 1) := by decide +kernel
theorem dX7_firstEmpty_36 : decode cX7_firstEmpty 36 = .ok (.bipush 6, 2) := by decide +kernel
theorem dX7_firstEmpty_38 : decode cX7_firstEmpty 38 = .ok (.if_icmp .ne 13, 3) := by decide +kernel
theorem dX7_firstEmpty_41 : decode cX7_firstEmpty 41 = .ok (.aload_n 0, 1) := by decide +kernel
theorem dX7_firstEmpty_42 : decode cX7_firstEmpty 42 = .ok (.getfield 30, 3) := by decide +kernel
theorem dX7_firstEmpty_45 : decode cX7_firstEmpty 45 = .ok (.invokevirtual 215, 3) := by decide +kernel
theorem dX7_firstEmpty_48 : decode cX7_firstEmpty 48 = .ok (.goto 5, 3) := by decide +kernel
theorem dX7_firstEmpty_51 : decode cX7_firstEmpty 51 = .ok (.bipush (-6), 2) := by decide +kernel
theorem dX7_firstEmpty_53 : decode cX7_firstEmpty 53 = .ok (.ireturn, 1) := by decide +kernel
theorem dX7_firstEmpty_54 : decode cX7_firstEmpty 54 = .ok (.aload_n 0, 1) := by decide +kernel
theorem dX7_firstEmpty_55 : decode cX7_firstEmpty 55 = .ok (.getfield 30, 3) := by decide +kernel
theorem dX7_firstEmpty_58 : decode cX7_firstEmpty 58 = .ok (.invokevirtual 211, 3) := by decide +kernel
theorem dX7_firstEmpty_61 : decode cX7_firstEmpty 61 = .ok (.iinc 1 1, 3) := by decide +kernel
theorem dX7_firstEmpty_64 : decode cX7_firstEmpty 64 = .ok (.goto (-48), 3) := by decide +kernel
theorem dX7_firstEmpty_67 : decode cX7_firstEmpty 67 = .ok (.bipush (-6), 2) := by decide +kernel
theorem dX7_firstEmpty_69 : decode cX7_firstEmpty 69 = .ok (.ireturn, 1) := by decide +kernel
theorem dX7_repeats_0 : decode cX7_repeats 0 = .ok (.aload_n 0, 1) := by decide +kernel
theorem dX7_repeats_1 : decode cX7_repeats 1 = .ok (.getfield 12, 3) := by decide +kernel
theorem dX7_repeats_4 : decode cX7_repeats 4 = .ok (.getfield 56, 3) := by decide +kernel
theorem dX7_repeats_7 : decode cX7_repeats 7 = .ok (.getfield 121, 3) := by decide +kernel
theorem dX7_repeats_10 : decode cX7_repeats 10 = .ok (.getfield 125, 3) := by decide +kernel
theorem dX7_repeats_13 : decode cX7_repeats 13 = .ok (.istore_n 1, 1) := by decide +kernel
theorem dX7_repeats_14 : decode cX7_repeats 14 = .ok (.iload_n 1, 1) := by decide +kernel
theorem dX7_repeats_15 : decode cX7_repeats 15 = .ok (.ifCond .ne 5, 3) := by decide +kernel
theorem dX7_repeats_18 : decode cX7_repeats 18 = .ok (.iconst 0, 1) := by decide +kernel
theorem dX7_repeats_19 : decode cX7_repeats 19 = .ok (.ireturn, 1) := by decide +kernel
theorem dX7_repeats_20 : decode cX7_repeats 20 = .ok (.aload_n 0, 1) := by decide +kernel
theorem dX7_repeats_21 : decode cX7_repeats 21 = .ok (.getfield 30, 3) := by decide +kernel
theorem dX7_repeats_24 : decode cX7_repeats 24 = .ok (.aload_n 0, 1) := by decide +kernel
theorem dX7_repeats_25 : decode cX7_repeats 25 = .ok (.getfield 12, 3) := by decide +kernel
theorem dX7_repeats_28 : decode cX7_repeats 28 = .ok (.getfield 56, 3) := by decide +kernel
theorem dX7_repeats_31 : decode cX7_repeats 31 = .ok (.invokevirtual 207, 3) := by decide +kernel
theorem dX7_repeats_34 : decode cX7_repeats 34 = .ok (.aload_n 0, 1) := by decide +kernel
theorem dX7_repeats_35 : decode cX7_repeats 35 = .ok (.getfield 30, 3) := by decide +kernel
theorem dX7_repeats_38 : decode cX7_repeats 38 = .ok (.getfield 121, 3) := by decide +kernel
theorem dX7_repeats_41 : decode cX7_repeats 41 = .ok (.iconst 0, 1) := by decide +kernel
theorem dX7_repeats_42 : decode cX7_repeats 42 = .ok (.putfield 140, 3) := by decide +kernel
theorem dX7_repeats_45 : decode cX7_repeats 45 = .ok (.iconst 0, 1) := by decide +kernel
theorem dX7_repeats_46 : decode cX7_repeats 46 = .ok (.istore_n 2, 1) := by decide +kernel
theorem dX7_repeats_47 : decode cX7_repeats 47 = .ok (.iload_n 2, 1) := by decide +kernel
theorem dX7_repeats_48 : decode cX7_repeats 48 = .ok (.iload_n 1, 1) := by decide +kernel
theorem dX7_repeats_49 : decode cX7_repeats 49 = .ok (.if_icmp .ge 28, 3) := by decide +kernel
theorem dX7_repeats_52 : decode cX7_repeats 52 = .ok (.aload_n 0, 1) := by decide +kernel
theorem dX7_repeats_53 : decode cX7_repeats 53 = .ok (.getfield 30, 3) := by decide +kernel
theorem dX7_repeats_56 : decode cX7_repeats 56 = .ok (.invokevirtual 145, 3) := by decide +kernel
theorem dX7_repeats_59 : decode cX7_repeats 59 = .ok (.ifCond .eq 5, 3) := by decide +kernel
theorem dX7_repeats_62 : decode cX7_repeats 62 = .ok (.iconst 0, 1) := by decide +kernel
theorem dX7_repeats_63 : decode cX7_repeats 63 = .ok (.ireturn, 1) := by decide +kernel
theorem dX7_repeats_64 : decode cX7_repeats 64 = .ok (.aload_n 0, 1) := by decide +kernel
theorem dX7_repeats_65 : decode cX7_repeats 65 = .ok (.getfield 30, 3) := by decide +kernel
theorem dX7_repeats_68 : decode cX7_repeats 68 = .ok (.invokevirtual 211, 3) := by decide +kernel
theorem dX7_repeats_71 : decode cX7_repeats 71 = .ok (.iinc 2 1, 3) := by decide +kernel
theorem dX7_repeats_74 : decode cX7_repeats 74 = .ok (.goto (-27), 3) := by decide +kernel
theorem dX7_repeats_77 : decode cX7_repeats 77 = .ok (.aload_n 0, 1) := by decide +kernel
theorem dX7_repeats_78 : decode cX7_repeats 78 = .ok (.getfield 30, 3) := by decide +kernel
theorem dX7_repeats_81 : decode cX7_repeats 81 = .ok (.getfield 59, 3) := by decide +kernel
theorem dX7_repeats_84 : decode cX7_repeats 84 = .ok (.aload_n 0, 1) := by decide +kernel
theorem dX7_repeats_85 : decode cX7_repeats 85 = .ok (.getfield 12, 3) := by decide +kernel
theorem dX7_repeats_88 : decode cX7_repeats 88 = .ok (.getfield 56, 3) := by decide +kernel
theorem dX7_repeats_91 : decode cX7_repeats 91 = .ok (.getfield 59, 3) := by decide +kernel
theorem dX7_repeats_94 : decode cX7_repeats 94 = .ok (.invokevirtual 218, 3) := by decide +kernel
theorem dX7_repeats_97 : decode cX7_repeats 97 = .ok (.ifCond .eq 7, 3) := by decide +kernel
theorem dX7_repeats_100 : decode cX7_repeats 100 = .ok (.iconst 1, 1) := by decide +kernel
theorem dX7_repeats_101 : decode cX7_repeats 101 = .ok (.goto 4, 3) := by decide +kernel
theorem dX7_repeats_104 : decode cX7_repeats 104 = .ok (.iconst 0, 1) := by decide +kernel
theorem dX7_repeats_105 : decode cX7_repeats 105 = .ok (.ireturn, 1) := by decide +kernel
theorem dX7_type_0 : decode cX7_type 0 = .ok (.iload_n 1, 1) := by decide +kernel
theorem dX7_type_1 : decode cX7_type 1 = .ok (.bipush 33, 2) := by decide +kernel
theorem dX7_type_3 : decode cX7_type 3 = .ok (.bipush 126, 2) := by decide +kernel
theorem dX7_type_5 : decode cX7_type 5 = .ok (.invokestatic 90, 3) := by decide +kernel
theorem dX7_type_8 : decode cX7_type 8 = .ok (.ifCond .ne 6, 3) := by decide +kernel
theorem dX7_type_11 : decode cX7_type 11 = .ok (.bipush (-2), 2) := by decide +kernel
theorem dX7_type_13 : decode cX7_type 13 = .ok (.ireturn, 1) := by decide +kernel
theorem dX7_type_14 : decode cX7_type 14 = .ok (.aload_n 0, 1) := by decide +kernel
theorem dX7_type_15 : decode cX7_type 15 = .ok (.getfield 45, 3) := by decide +kernel
theorem dX7_type_18 : decode cX7_type 18 = .ok (.ifCond .lt 12, 3) := by decide +kernel
theorem dX7_type_21 : decode cX7_type 21 = .ok (.aload_n 0, 1) := by decide +kernel
theorem dX7_type_22 : decode cX7_type 22 = .ok (.getfield 45, 3) := by decide +kernel
theorem dX7_type_25 : decode cX7_type 25 = .ok (.bipush 80, 2) := by decide +kernel
theorem dX7_type_27 : decode cX7_type 27 = .ok (.if_icmp .lt 6, 3) := by decide +kernel
theorem dX7_type_30 : decode cX7_type 30 = .ok (.bipush (-4), 2) := by decide +kernel
theorem dX7_type_32 : decode cX7_type 32 = .ok (.ireturn, 1) := by decide +kernel
theorem dX7_type_33 : decode cX7_type 33 = .ok (.aload_n 0, 1) := by decide +kernel
theorem dX7_type_34 : decode cX7_type 34 = .ok (.getfield 41, 3) := by decide +kernel
theorem dX7_type_37 : decode cX7_type 37 = .ok (.aload_n 0, 1) := by decide +kernel
theorem dX7_type_38 : decode cX7_type 38 = .ok (.getfield 45, 3) := by decide +kernel
theorem dX7_type_41 : decode cX7_type 41 = .ok (.iload_n 1, 1) := by decide +kernel
theorem dX7_type_42 : decode cX7_type 42 = .ok (.i2c, 1) := by decide +kernel
theorem dX7_type_43 : decode cX7_type 43 = .ok (.castore, 1) := by decide +kernel
theorem dX7_type_44 : decode cX7_type 44 = .ok (.aload_n 0, 1) := by decide +kernel
theorem dX7_type_45 : decode cX7_type 45 = .ok (.dup, 1) := by decide +kernel
theorem dX7_type_46 : decode cX7_type 46 = .ok (.getfield 45, 3) := by decide +kernel
theorem dX7_type_49 : decode cX7_type 49 = .ok (.iconst 1, 1) := by decide +kernel
theorem dX7_type_50 : decode cX7_type 50 = .ok (.iadd, 1) := by decide +kernel
theorem dX7_type_51 : decode cX7_type 51 = .ok (.putfield 45, 3) := by decide +kernel
theorem dX7_type_54 : decode cX7_type 54 = .ok (.aload_n 0, 1) := by decide +kernel
theorem dX7_type_55 : decode cX7_type 55 = .ok (.getfield 45, 3) := by decide +kernel
theorem dX7_type_58 : decode cX7_type 58 = .ok (.ireturn, 1) := by decide +kernel
theorem dX7_clearText_0 : decode cX7_clearText 0 = .ok (.aload_n 0, 1) := by decide +kernel
theorem dX7_clearText_1 : decode cX7_clearText 1 = .ok (.getfield 45, 3) := by decide +kernel
theorem dX7_clearText_4 : decode cX7_clearText 4 = .ok (.istore_n 1, 1) := by decide +kernel
theorem dX7_clearText_5 : decode cX7_clearText 5 = .ok (.aload_n 0, 1) := by decide +kernel
theorem dX7_clearText_6 : decode cX7_clearText 6 = .ok (.iconst 0, 1) := by decide +kernel
theorem dX7_clearText_7 : decode cX7_clearText 7 = .ok (.putfield 45, 3) := by decide +kernel
theorem dX7_clearText_10 : decode cX7_clearText 10 = .ok (.iload_n 1, 1) := by decide +kernel
theorem dX7_clearText_11 : decode cX7_clearText 11 = .ok (.ireturn, 1) := by decide +kernel
theorem dX7_syntaxError_0 : decode cX7_syntaxError 0 = .ok (.aload_n 0, 1) := by decide +kernel
theorem dX7_syntaxError_1 : decode cX7_syntaxError 1 = .ok (.getfield 37, 3) := by decide +kernel
theorem dX7_syntaxError_4 : decode cX7_syntaxError 4 = .ok (.invokevirtual 222, 3) := by decide +kernel
theorem dX7_syntaxError_7 : decode cX7_syntaxError 7 = .ok (.iconst 0, 1) := by decide +kernel
theorem dX7_syntaxError_8 : decode cX7_syntaxError 8 = .ok (.istore_n 1, 1) := by decide +kernel
theorem dX7_syntaxError_9 : decode cX7_syntaxError 9 = .ok (.iload_n 1, 1) := by decide +kernel
theorem dX7_syntaxError_10 : decode cX7_syntaxError 10 = .ok (.aload_n 0, 1) := by decide +kernel
theorem dX7_syntaxError_11 : decode cX7_syntaxError 11 = .ok (.getfield 45, 3) := by decide +kernel
theorem dX7_syntaxError_14 : decode cX7_syntaxError 14 = .ok (.if_icmp .ge 33, 3) := by decide +kernel
theorem dX7_syntaxError_17 : decode cX7_syntaxError 17 = .ok (.iload_n 1, 1) := by decide +kernel
theorem dX7_syntaxError_18 : decode cX7_syntaxError 18 = .ok (.bipush 80, 2) := by decide +kernel
theorem dX7_syntaxError_20 : decode cX7_syntaxError 20 = .ok (.if_icmp .ge 27, 3) := by decide +kernel
theorem dX7_syntaxError_23 : decode cX7_syntaxError 23 = .ok (.aload_n 0, 1) := by decide +kernel
theorem dX7_syntaxError_24 : decode cX7_syntaxError 24 = .ok (.getfield 37, 3) := by decide +kernel
theorem dX7_syntaxError_27 : decode cX7_syntaxError 27 = .ok (.aload_n 0, 1) := by decide +kernel
theorem dX7_syntaxError_28 : decode cX7_syntaxError 28 = .ok (.getfield 41, 3) := by decide +kernel
theorem dX7_syntaxError_31 : decode cX7_syntaxError 31 = .ok (.iload_n 1, 1) := by decide +kernel
theorem dX7_syntaxError_32 : decode cX7_syntaxError 32 = .ok (.caload, 1) := by decide +kernel
theorem dX7_syntaxError_33 : decode cX7_syntaxError 33 = .ok (.invokevirtual 225, 3) := by decide +kernel
theorem dX7_syntaxError_36 : decode cX7_syntaxError 36 = .ok (.ifCond .ne 5, 3) := by decide +kernel
theorem dX7_syntaxError_39 : decode cX7_syntaxError 39 = .ok (.iload_n 1, 1) := by decide +kernel
theorem dX7_syntaxError_40 : decode cX7_syntaxError 40 = .ok (.ireturn, 1) := by decide +kernel
theorem dX7_syntaxError_41 : decode cX7_syntaxError 41 = .ok (.iinc 1 1, 3) := by decide +kernel
theorem dX7_syntaxError_44 : decode cX7_syntaxError 44 = .ok (.goto (-35), 3) := by decide +kernel
theorem dX7_syntaxError_47 : decode cX7_syntaxError 47 = .ok (.aload_n 0, 1) := by decide +kernel
theorem dX7_syntaxError_48 : decode cX7_syntaxError 48 = .ok (.getfield 37, 3) := by decide +kernel
theorem dX7_syntaxError_51 : decode cX7_syntaxError 51 = .ok (.invokevirtual 229, 3) := by decide +kernel
theorem dX7_syntaxError_54 : decode cX7_syntaxError 54 = .ok (.ifCond .eq 8, 3) := by decide +kernel
theorem dX7_syntaxError_57 : decode cX7_syntaxError 57 = .ok (.bipush (-6), 2) := by decide +kernel
theorem dX7_syntaxError_59 : decode cX7_syntaxError 59 = .ok (.goto 7, 3) := by decide +kernel
theorem dX7_syntaxError_62 : decode cX7_syntaxError 62 = .ok (.aload_n 0, 1) := by decide +kernel
theorem dX7_syntaxError_63 : decode cX7_syntaxError 63 = .ok (.getfield 45, 3) := by decide +kernel
theorem dX7_syntaxError_66 : decode cX7_syntaxError 66 = .ok (.ireturn, 1) := by decide +kernel
theorem dX7_readCards_0 : decode cX7_readCards 0 = .ok (.aload_n 0, 1) := by decide +kernel
theorem dX7_readCards_1 : decode cX7_readCards 1 = .ok (.invokevirtual 233, 3) := by decide +kernel
theorem dX7_readCards_4 : decode cX7_readCards 4 = .ok (.bipush (-6), 2) := by decide +kernel
theorem dX7_readCards_6 : decode cX7_readCards 6 = .ok (.if_icmp .eq 6, 3) := by decide +kernel
theorem dX7_readCards_9 : decode cX7_readCards 9 = .ok (.bipush (-5), 2) := by decide +kernel
theorem dX7_readCards_11 : decode cX7_readCards 11 = .ok (.ireturn, 1) := by decide +kernel
theorem dX7_readCards_12 : decode cX7_readCards 12 = .ok (.aload_n 0, 1) := by decide +kernel
theorem dX7_readCards_13 : decode cX7_readCards 13 = .ok (.getfield 12, 3) := by decide +kernel
theorem dX7_readCards_16 : decode cX7_readCards 16 = .ok (.getfield 56, 3) := by decide +kernel
theorem dX7_readCards_19 : decode cX7_readCards 19 = .ok (.getfield 121, 3) := by decide +kernel
theorem dX7_readCards_22 : decode cX7_readCards 22 = .ok (.astore_n 1, 1) := by decide +kernel
theorem dX7_readCards_23 : decode cX7_readCards 23 = .ok (.aload_n 1, 1) := by decide +kernel
theorem dX7_readCards_24 : decode cX7_readCards 24 = .ok (.getfield 125, 3) := by decide +kernel
theorem dX7_readCards_27 : decode cX7_readCards 27 = .ok (.aload_n 0, 1) := by decide +kernel
theorem dX7_readCards_28 : decode cX7_readCards 28 = .ok (.invokevirtual 236, 3) := by decide +kernel
theorem dX7_readCards_31 : decode cX7_readCards 31 = .ok (.iadd, 1) := by decide +kernel
theorem dX7_readCards_32 : decode cX7_readCards 32 = .ok (.bipush 16, 2) := by decide +kernel
theorem dX7_readCards_34 : decode cX7_readCards 34 = .ok (.if_icmp .le 6, 3) := by decide +kernel
theorem dX7_readCards_37 : decode cX7_readCards 37 = .ok (.bipush (-4), 2) := by decide +kernel
theorem dX7_readCards_39 : decode cX7_readCards 39 = .ok (.ireturn, 1) := by decide +kernel
theorem dX7_readCards_40 : decode cX7_readCards 40 = .ok (.aload_n 0, 1) := by decide +kernel
theorem dX7_readCards_41 : decode cX7_readCards 41 = .ok (.invokevirtual 72, 3) := by decide +kernel
theorem dX7_readCards_44 : decode cX7_readCards 44 = .ok (.aload_n 0, 1) := by decide +kernel
theorem dX7_readCards_45 : decode cX7_readCards 45 = .ok (.getfield 37, 3) := by decide +kernel
theorem dX7_readCards_48 : decode cX7_readCards 48 = .ok (.invokevirtual 222, 3) := by decide +kernel
theorem dX7_readCards_51 : decode cX7_readCards 51 = .ok (.iconst 0, 1) := by decide +kernel
theorem dX7_readCards_52 : decode cX7_readCards 52 = .ok (.istore_n 2, 1) := by decide +kernel
theorem dX7_readCards_53 : decode cX7_readCards 53 = .ok (.iload_n 2, 1) := by decide +kernel
theorem dX7_readCards_54 : decode cX7_readCards 54 = .ok (.aload_n 0, 1) := by decide +kernel
theorem dX7_readCards_55 : decode cX7_readCards 55 = .ok (.getfield 45, 3) := by decide +kernel
theorem dX7_readCards_58 : decode cX7_readCards 58 = .ok (.if_icmp .ge 66, 3) := by decide +kernel
theorem dX7_readCards_61 : decode cX7_readCards 61 = .ok (.iload_n 2, 1) := by decide +kernel
theorem dX7_readCards_62 : decode cX7_readCards 62 = .ok (.bipush 80, 2) := by decide +kernel
theorem dX7_readCards_64 : decode cX7_readCards 64 = .ok (.if_icmp .ge 60, 3) := by decide +kernel
theorem dX7_readCards_67 : decode cX7_readCards 67 = .ok (.aload_n 0, 1) := by decide +kernel
theorem dX7_readCards_68 : decode cX7_readCards 68 = .ok (.getfield 37, 3) := by decide +kernel
theorem dX7_readCards_71 : decode cX7_readCards 71 = .ok (.aload_n 0, 1) := by decide +kernel
theorem dX7_readCards_72 : decode cX7_readCards 72 = .ok (.getfield 41, 3) := by decide +kernel
theorem dX7_readCards_75 : decode cX7_readCards 75 = .ok (.iload_n 2, 1) := by decide +kernel
theorem dX7_readCards_76 : decode cX7_readCards 76 = .ok (.caload, 1) := by decide +kernel
theorem dX7_readCards_77 : decode cX7_readCards 77 = .ok (.invokevirtual 225, 3) := by decide +kernel
theorem dX7_readCards_80 : decode cX7_readCards 80 = .ok (.ifCond .eq 38, 3) := by decide +kernel
theorem dX7_readCards_83 : decode cX7_readCards 83 = .ok (.aload_n 0, 1) := by decide +kernel
theorem dX7_readCards_84 : decode cX7_readCards 84 = .ok (.getfield 37, 3) := by decide +kernel
theorem dX7_readCards_87 : decode cX7_readCards 87 = .ok (.invokevirtual 229, 3) := by decide +kernel
theorem dX7_readCards_90 : decode cX7_readCards 90 = .ok (.ifCond .eq 28, 3) := by decide +kernel
theorem dX7_readCards_93 : decode cX7_readCards 93 = .ok (.aload_n 1, 1) := by decide +kernel
theorem dX7_readCards_94 : decode cX7_readCards 94 = .ok (.aload_n 0, 1) := by decide +kernel
theorem dX7_readCards_95 : decode cX7_readCards 95 = .ok (.getfield 37, 3) := by decide +kernel
theorem dX7_readCards_98 : decode cX7_readCards 98 = .ok (.getfield 239, 3) := by decide +kernel
theorem dX7_readCards_101 : decode cX7_readCards 101 = .ok (.aload_n 0, 1) := by decide +kernel
theorem dX7_readCards_102 : decode cX7_readCards 102 = .ok (.getfield 37, 3) := by decide +kernel
theorem dX7_readCards_105 : decode cX7_readCards 105 = .ok (.getfield 242, 3) := by decide +kernel
theorem dX7_readCards_108 : decode cX7_readCards 108 = .ok (.aload_n 0, 1) := by decide +kernel
theorem dX7_readCards_109 : decode cX7_readCards 109 = .ok (.getfield 37, 3) := by decide +kernel
theorem dX7_readCards_112 : decode cX7_readCards 112 = .ok (.getfield 245, 3) := by decide +kernel
theorem dX7_readCards_115 : decode cX7_readCards 115 = .ok (.invokevirtual 130, 3) := by decide +kernel
theorem dX7_readCards_118 : decode cX7_readCards 118 = .ok (.iinc 2 1, 3) := by decide +kernel
theorem dX7_readCards_121 : decode cX7_readCards 121 = .ok (.goto (-68), 3) := by decide +kernel
theorem dX7_readCards_124 : decode cX7_readCards 124 = .ok (.aload_n 0, 1) := by decide +kernel
theorem dX7_readCards_125 : decode cX7_readCards 125 = .ok (.iconst 0, 1) := by decide +kernel
theorem dX7_readCards_126 : decode cX7_readCards 126 = .ok (.putfield 45, 3) := by decide +kernel
theorem dX7_readCards_129 : decode cX7_readCards 129 = .ok (.aload_n 1, 1) := by decide +kernel
theorem dX7_readCards_130 : decode cX7_readCards 130 = .ok (.getfield 125, 3) := by decide +kernel
theorem dX7_readCards_133 : decode cX7_readCards 133 = .ok (.ireturn, 1) := by decide +kernel
theorem dX7_undo_0 : decode cX7_undo 0 = .ok (.aload_n 0, 1) := by decide +kernel
theorem dX7_undo_1 : decode cX7_undo 1 = .ok (.getfield 20, 3) := by decide +kernel
theorem dX7_undo_4 : decode cX7_undo 4 = .ok (.ifCond .gt 6, 3) := by decide +kernel
theorem dX7_undo_7 : decode cX7_undo 7 = .ok (.bipush (-3), 2) := by decide +kernel
theorem dX7_undo_9 : decode cX7_undo 9 = .ok (.ireturn, 1) := by decide +kernel
theorem dX7_undo_10 : decode cX7_undo 10 = .ok (.aload_n 0, 1) := by decide +kernel
theorem dX7_undo_11 : decode cX7_undo 11 = .ok (.getfield 12, 3) := by decide +kernel
theorem dX7_undo_14 : decode cX7_undo 14 = .ok (.aload_n 0, 1) := by decide +kernel
theorem dX7_undo_15 : decode cX7_undo 15 = .ok (.getfield 16, 3) := by decide +kernel
theorem dX7_undo_18 : decode cX7_undo 18 = .ok (.aload_n 0, 1) := by decide +kernel
theorem dX7_undo_19 : decode cX7_undo 19 = .ok (.getfield 24, 3) := by decide +kernel
theorem dX7_undo_22 : decode cX7_undo 22 = .ok (.bipush 6, 2) := by decide +kernel
theorem dX7_undo_24 : decode cX7_undo 24 = .ok (.invokestatic 248, 3) := by decide +kernel
theorem dX7_undo_27 : decode cX7_undo 27 = .ok (.aaload, 1) := by decide +kernel
theorem dX7_undo_28 : decode cX7_undo 28 = .ok (.invokevirtual 253, 3) := by decide +kernel
theorem dX7_undo_31 : decode cX7_undo 31 = .ok (.aload_n 0, 1) := by decide +kernel
theorem dX7_undo_32 : decode cX7_undo 32 = .ok (.aload_n 0, 1) := by decide +kernel
theorem dX7_undo_33 : decode cX7_undo 33 = .ok (.getfield 24, 3) := by decide +kernel
theorem dX7_undo_36 : decode cX7_undo 36 = .ok (.iconst 1, 1) := by decide +kernel
theorem dX7_undo_37 : decode cX7_undo 37 = .ok (.isub, 1) := by decide +kernel
theorem dX7_undo_38 : decode cX7_undo 38 = .ok (.bipush 6, 2) := by decide +kernel
theorem dX7_undo_40 : decode cX7_undo 40 = .ok (.invokestatic 248, 3) := by decide +kernel
theorem dX7_undo_43 : decode cX7_undo 43 = .ok (.putfield 24, 3) := by decide +kernel
theorem dX7_undo_46 : decode cX7_undo 46 = .ok (.aload_n 0, 1) := by decide +kernel
theorem dX7_undo_47 : decode cX7_undo 47 = .ok (.dup, 1) := by decide +kernel
theorem dX7_undo_48 : decode cX7_undo 48 = .ok (.getfield 20, 3) := by decide +kernel
theorem dX7_undo_51 : decode cX7_undo 51 = .ok (.iconst 1, 1) := by decide +kernel
theorem dX7_undo_52 : decode cX7_undo 52 = .ok (.isub, 1) := by decide +kernel
theorem dX7_undo_53 : decode cX7_undo 53 = .ok (.putfield 20, 3) := by decide +kernel
theorem dX7_undo_56 : decode cX7_undo 56 = .ok (.aload_n 0, 1) := by decide +kernel
theorem dX7_undo_57 : decode cX7_undo 57 = .ok (.getfield 20, 3) := by decide +kernel
theorem dX7_undo_60 : decode cX7_undo 60 = .ok (.ireturn, 1) := by decide +kernel
theorem dX7_digest_0 : decode cX7_digest 0 = .ok (.ldc2_w 256, 3) := by decide +kernel
theorem dX7_digest_3 : decode cX7_digest 3 = .ok (.lstore_n 1, 1) := by decide +kernel
theorem dX7_digest_4 : decode cX7_digest 4 = .ok (.iconst 0, 1) := by decide +kernel
theorem dX7_digest_5 : decode cX7_digest 5 = .ok (.istore_n 3, 1) := by decide +kernel
theorem dX7_digest_6 : decode cX7_digest 6 = .ok (.iload_n 3, 1) := by decide +kernel
theorem dX7_digest_7 : decode cX7_digest 7 = .ok (.bipush 12, 2) := by decide +kernel
theorem dX7_digest_9 : decode cX7_digest 9 = .ok (.if_icmp .ge 22, 3) := by decide +kernel
theorem dX7_digest_12 : decode cX7_digest 12 = .ok (.ldc2_w 258, 3) := by decide +kernel
theorem dX7_digest_15 : decode cX7_digest 15 = .ok (.lload_n 1, 1) := by decide +kernel
theorem dX7_digest_16 : decode cX7_digest 16 = .ok (.lmul, 1) := by decide +kernel
theorem dX7_digest_17 : decode cX7_digest 17 = .ok (.aload_n 0, 1) := by decide +kernel
theorem dX7_digest_18 : decode cX7_digest 18 = .ok (.iload_n 3, 1) := by decide +kernel
theorem dX7_digest_19 : decode cX7_digest 19 = .ok (.invokevirtual 260, 3) := by decide +kernel
theorem dX7_digest_22 : decode cX7_digest 22 = .ok (.i2l, 1) := by decide +kernel
theorem dX7_digest_23 : decode cX7_digest 23 = .ok (.ladd, 1) := by decide +kernel
theorem dX7_digest_24 : decode cX7_digest 24 = .ok (.lstore_n 1, 1) := by decide +kernel
theorem dX7_digest_25 : decode cX7_digest 25 = .ok (.iinc 3 1, 3) := by decide +kernel
theorem dX7_digest_28 : decode cX7_digest 28 = .ok (.goto (-22), 3) := by decide +kernel
theorem dX7_digest_31 : decode cX7_digest 31 = .ok (.aload_n 0, 1) := by decide +kernel
theorem dX7_digest_32 : decode cX7_digest 32 = .ok (.lload_n 1, 1) := by decide +kernel
theorem dX7_digest_33 : decode cX7_digest 33 = .ok (.invokevirtual 263, 3) := by decide +kernel
theorem dX7_digest_36 : decode cX7_digest 36 = .ok (.lstore_n 1, 1) := by decide +kernel
theorem dX7_digest_37 : decode cX7_digest 37 = .ok (.aload_n 0, 1) := by decide +kernel
theorem dX7_digest_38 : decode cX7_digest 38 = .ok (.lload_n 1, 1) := by decide +kernel
theorem dX7_digest_39 : decode cX7_digest 39 = .ok (.invokevirtual 267, 3) := by decide +kernel
theorem dX7_digest_42 : decode cX7_digest 42 = .ok (.lstore_n 1, 1) := by decide +kernel
theorem dX7_digest_43 : decode cX7_digest 43 = .ok (.aload_n 0, 1) := by decide +kernel
theorem dX7_digest_44 : decode cX7_digest 44 = .ok (.lload_n 1, 1) := by decide +kernel
theorem dX7_digest_45 : decode cX7_digest 45 = .ok (.invokevirtual 270, 3) := by decide +kernel
theorem dX7_digest_48 : decode cX7_digest 48 = .ok (.lstore_n 1, 1) := by decide +kernel
theorem dX7_digest_49 : decode cX7_digest 49 = .ok (.aload_n 0, 1) := by decide +kernel
theorem dX7_digest_50 : decode cX7_digest 50 = .ok (.lload_n 1, 1) := by decide +kernel
theorem dX7_digest_51 : decode cX7_digest 51 = .ok (.invokevirtual 273, 3) := by decide +kernel
theorem dX7_digest_54 : decode cX7_digest 54 = .ok (.lstore_n 1, 1) := by decide +kernel
theorem dX7_digest_55 : decode cX7_digest 55 = .ok (.ldc2_w 258, 3) := by decide +kernel
theorem dX7_digest_58 : decode cX7_digest 58 = .ok (.lload_n 1, 1) := by decide +kernel
theorem dX7_digest_59 : decode cX7_digest 59 = .ok (.lmul, 1) := by decide +kernel
theorem dX7_digest_60 : decode cX7_digest 60 = .ok (.aload_n 0, 1) := by decide +kernel
theorem dX7_digest_61 : decode cX7_digest 61 = .ok (.invokevirtual 276, 3) := by decide +kernel
theorem dX7_digest_64 : decode cX7_digest 64 = .ok (.i2l, 1) := by decide +kernel
theorem dX7_digest_65 : decode cX7_digest 65 = .ok (.ladd, 1) := by decide +kernel
theorem dX7_digest_66 : decode cX7_digest 66 = .ok (.lstore_n 1, 1) := by decide +kernel
theorem dX7_digest_67 : decode cX7_digest 67 = .ok (.ldc2_w 258, 3) := by decide +kernel
theorem dX7_digest_70 : decode cX7_digest 70 = .ok (.lload_n 1, 1) := by decide +kernel
theorem dX7_digest_71 : decode cX7_digest 71 = .ok (.lmul, 1) := by decide +kernel
theorem dX7_digest_72 : decode cX7_digest 72 = .ok (.aload_n 0, 1) := by decide +kernel
theorem dX7_digest_73 : decode cX7_digest 73 = .ok (.invokevirtual 279, 3) := by decide +kernel
theorem dX7_digest_76 : decode cX7_digest 76 = .ok (.i2l, 1) := by decide +kernel
theorem dX7_digest_77 : decode cX7_digest 77 = .ok (.ladd, 1) := by decide +kernel
theorem dX7_digest_78 : decode cX7_digest 78 = .ok (.lstore_n 1, 1) := by decide +kernel
theorem dX7_digest_79 : decode cX7_digest 79 = .ok (.ldc2_w 258, 3) := by decide +kernel
theorem dX7_digest_82 : decode cX7_digest 82 = .ok (.lload_n 1, 1) := by decide +kernel
theorem dX7_digest_83 : decode cX7_digest 83 = .ok (.lmul, 1) := by decide +kernel
theorem dX7_digest_84 : decode cX7_digest 84 = .ok (.aload_n 0, 1) := by decide +kernel
theorem dX7_digest_85 : decode cX7_digest 85 = .ok (.invokevirtual 282, 3) := by decide +kernel
theorem dX7_digest_88 : decode cX7_digest 88 = .ok (.i2l, 1) := by decide +kernel
theorem dX7_digest_89 : decode cX7_digest 89 = .ok (.ladd, 1) := by decide +kernel
theorem dX7_digest_90 : decode cX7_digest 90 = .ok (.lstore_n 1, 1) := by decide +kernel
theorem dX7_digest_91 : decode cX7_digest 91 = .ok (.ldc2_w 258, 3) := by decide +kernel
theorem dX7_digest_94 : decode cX7_digest 94 = .ok (.lload_n 1, 1) := by decide +kernel
theorem dX7_digest_95 : decode cX7_digest 95 = .ok (.lmul, 1) := by decide +kernel
theorem dX7_digest_96 : decode cX7_digest 96 = .ok (.aload_n 0, 1) := by decide +kernel
theorem dX7_digest_97 : decode cX7_digest 97 = .ok (.invokevirtual 285, 3) := by decide +kernel
theorem dX7_digest_100 : decode cX7_digest 100 = .ok (.i2l, 1) := by decide +kernel
theorem dX7_digest_101 : decode cX7_digest 101 = .ok (.ladd, 1) := by decide +kernel
theorem dX7_digest_102 : decode cX7_digest 102 = .ok (.lreturn, 1) := by decide +kernel
theorem dX7_hashShuttles_0 : decode cX7_hashShuttles 0 = .ok (.lload_n 1, 1) := by decide +kernel
theorem dX7_hashShuttles_1 : decode cX7_hashShuttles 1 = .ok (.lstore_n 3, 1) := by decide +kernel
theorem dX7_hashShuttles_2 : decode cX7_hashShuttles 2 = .ok (.iconst 0, 1) := by decide +kernel
theorem dX7_hashShuttles_3 : decode cX7_hashShuttles 3 = .ok (.istore 5, 2) := by decide +kernel
theorem dX7_hashShuttles_5 : decode cX7_hashShuttles 5 = .ok (.iload 5, 2) := by decide +kernel
theorem dX7_hashShuttles_7 : decode cX7_hashShuttles 7 = .ok (.iconst 5, 1) := by decide +kernel
theorem dX7_hashShuttles_8 : decode cX7_hashShuttles 8 = .ok (.if_icmp .ge 40, 3) := by decide +kernel
theorem dX7_hashShuttles_11 : decode cX7_hashShuttles 11 = .ok (.iconst 0, 1) := by decide +kernel
theorem dX7_hashShuttles_12 : decode cX7_hashShuttles 12 = .ok (.istore 6, 2) := by decide +kernel
theorem dX7_hashShuttles_14 : decode cX7_hashShuttles 14 = .ok (.iload 6, 2) := by decide +kernel
theorem dX7_hashShuttles_16 : decode cX7_hashShuttles 16 = .ok (.iconst 4, 1) := by decide +kernel
theorem dX7_hashShuttles_17 : decode cX7_hashShuttles 17 = .ok (.if_icmp .ge 25, 3) := by decide +kernel
theorem dX7_hashShuttles_20 : decode cX7_hashShuttles 20 = .ok (.ldc2_w 258, 3) := by decide +kernel
theorem dX7_hashShuttles_23 : decode cX7_hashShuttles 23 = .ok (.lload_n 3, 1) := by decide +kernel
theorem dX7_hashShuttles_24 : decode cX7_hashShuttles 24 = .ok (.lmul, 1) := by decide +kernel
theorem dX7_hashShuttles_25 : decode cX7_hashShuttles 25 = .ok (.aload_n 0, 1) := by decide +kernel
theorem dX7_hashShuttles_26 : decode cX7_hashShuttles 26 = .ok (.iload 5, 2) := by decide +kernel
theorem dX7_hashShuttles_28 : decode cX7_hashShuttles 28 = .ok (.iload 6, 2) := by decide +kernel
theorem dX7_hashShuttles_30 : decode cX7_hashShuttles 30 = .ok (.invokevirtual 288, 3) := by decide +kernel
theorem dX7_hashShuttles_33 : decode cX7_hashShuttles 33 = .ok (.i2l, 1) := by decide +kernel
theorem dX7_hashShuttles_34 : decode cX7_hashShuttles 34 = .ok (.ladd, 1) := by decide +kernel
theorem dX7_hashShuttles_35 : decode cX7_hashShuttles 35 = .ok (.lstore_n 3, 1) := by decide +kernel
theorem dX7_hashShuttles_36 : decode cX7_hashShuttles 36 = .ok (.iinc 6 1, 3) := by decide +kernel
theorem dX7_hashShuttles_39 : decode cX7_hashShuttles 39 = .ok (.goto (-25), 3) := by decide +kernel
theorem dX7_hashShuttles_42 : decode cX7_hashShuttles 42 = .ok (.iinc 5 1, 3) := by decide +kernel
theorem dX7_hashShuttles_45 : decode cX7_hashShuttles 45 = .ok (.goto (-40), 3) := by decide +kernel
theorem dX7_hashShuttles_48 : decode cX7_hashShuttles 48 = .ok (.lload_n 3, 1) := by decide +kernel
theorem dX7_hashShuttles_49 : decode cX7_hashShuttles 49 = .ok (.lreturn, 1) := by decide +kernel
theorem dX7_hashThreads_0 : decode cX7_hashThreads 0 = .ok (.lload_n 1, 1) := by decide +kernel
theorem dX7_hashThreads_1 : decode cX7_hashThreads 1 = .ok (.lstore_n 3, 1) := by decide +kernel
theorem dX7_hashThreads_2 : decode cX7_hashThreads 2 = .ok (.iconst 0, 1) := by decide +kernel
theorem dX7_hashThreads_3 : decode cX7_hashThreads 3 = .ok (.istore 5, 2) := by decide +kernel
theorem dX7_hashThreads_5 : decode cX7_hashThreads 5 = .ok (.iload 5, 2) := by decide +kernel
theorem dX7_hashThreads_7 : decode cX7_hashThreads 7 = .ok (.bipush 12, 2) := by decide +kernel
theorem dX7_hashThreads_9 : decode cX7_hashThreads 9 = .ok (.if_icmp .ge 54, 3) := by decide +kernel
theorem dX7_hashThreads_12 : decode cX7_hashThreads 12 = .ok (.iconst 0, 1) := by decide +kernel
theorem dX7_hashThreads_13 : decode cX7_hashThreads 13 = .ok (.istore 6, 2) := by decide +kernel
theorem dX7_hashThreads_15 : decode cX7_hashThreads 15 = .ok (.iload 6, 2) := by decide +kernel
theorem dX7_hashThreads_17 : decode cX7_hashThreads 17 = .ok (.iconst 3, 1) := by decide +kernel
theorem dX7_hashThreads_18 : decode cX7_hashThreads 18 = .ok (.if_icmp .ge 25, 3) := by decide +kernel
theorem dX7_hashThreads_21 : decode cX7_hashThreads 21 = .ok (.ldc2_w 258, 3) := by decide +kernel
theorem dX7_hashThreads_24 : decode cX7_hashThreads 24 = .ok (.lload_n 3, 1) := by decide +kernel
theorem dX7_hashThreads_25 : decode cX7_hashThreads 25 = .ok (.lmul, 1) := by decide +kernel
theorem dX7_hashThreads_26 : decode cX7_hashThreads 26 = .ok (.aload_n 0, 1) := by decide +kernel
theorem dX7_hashThreads_27 : decode cX7_hashThreads 27 = .ok (.iload 5, 2) := by decide +kernel
theorem dX7_hashThreads_29 : decode cX7_hashThreads 29 = .ok (.iload 6, 2) := by decide +kernel
theorem dX7_hashThreads_31 : decode cX7_hashThreads 31 = .ok (.invokevirtual 291, 3) := by decide +kernel
theorem dX7_hashThreads_34 : decode cX7_hashThreads 34 = .ok (.i2l, 1) := by decide +kernel
theorem dX7_hashThreads_35 : decode cX7_hashThreads 35 = .ok (.ladd, 1) := by decide +kernel
theorem dX7_hashThreads_36 : decode cX7_hashThreads 36 = .ok (.lstore_n 3, 1) := by decide +kernel
theorem dX7_hashThreads_37 : decode cX7_hashThreads 37 = .ok (.iinc 6 1, 3) := by decide +kernel
theorem dX7_hashThreads_40 : decode cX7_hashThreads 40 = .ok (.goto (-25), 3) := by decide +kernel
theorem dX7_hashThreads_43 : decode cX7_hashThreads 43 = .ok (.ldc2_w 258, 3) := by decide +kernel
theorem dX7_hashThreads_46 : decode cX7_hashThreads 46 = .ok (.lload_n 3, 1) := by decide +kernel
theorem dX7_hashThreads_47 : decode cX7_hashThreads 47 = .ok (.lmul, 1) := by decide +kernel
theorem dX7_hashThreads_48 : decode cX7_hashThreads 48 = .ok (.aload_n 0, 1) := by decide +kernel
theorem dX7_hashThreads_49 : decode cX7_hashThreads 49 = .ok (.iload 5, 2) := by decide +kernel
theorem dX7_hashThreads_51 : decode cX7_hashThreads 51 = .ok (.invokevirtual 294, 3) := by decide +kernel
theorem dX7_hashThreads_54 : decode cX7_hashThreads 54 = .ok (.i2l, 1) := by decide +kernel
theorem dX7_hashThreads_55 : decode cX7_hashThreads 55 = .ok (.ladd, 1) := by decide +kernel
theorem dX7_hashThreads_56 : decode cX7_hashThreads 56 = .ok (.lstore_n 3, 1) := by decide +kernel
theorem dX7_hashThreads_57 : decode cX7_hashThreads 57 = .ok (.iinc 5 1, 3) := by decide +kernel
theorem dX7_hashThreads_60 : decode cX7_hashThreads 60 = .ok (.goto (-55), 3) := by decide +kernel
theorem dX7_hashThreads_63 : decode cX7_hashThreads 63 = .ok (.lload_n 3, 1) := by decide +kernel
theorem dX7_hashThreads_64 : decode cX7_hashThreads 64 = .ok (.lreturn, 1) := by decide +kernel
theorem dX7_hashCards_0 : decode cX7_hashCards 0 = .ok (.lload_n 1, 1) := by decide +kernel
theorem dX7_hashCards_1 : decode cX7_hashCards 1 = .ok (.lstore_n 3, 1) := by decide +kernel
theorem dX7_hashCards_2 : decode cX7_hashCards 2 = .ok (.iconst 0, 1) := by decide +kernel
theorem dX7_hashCards_3 : decode cX7_hashCards 3 = .ok (.istore 5, 2) := by decide +kernel
theorem dX7_hashCards_5 : decode cX7_hashCards 5 = .ok (.iload 5, 2) := by decide +kernel
theorem dX7_hashCards_7 : decode cX7_hashCards 7 = .ok (.aload_n 0, 1) := by decide +kernel
theorem dX7_hashCards_8 : decode cX7_hashCards 8 = .ok (.getfield 12, 3) := by decide +kernel
theorem dX7_hashCards_11 : decode cX7_hashCards 11 = .ok (.getfield 56, 3) := by decide +kernel
theorem dX7_hashCards_14 : decode cX7_hashCards 14 = .ok (.getfield 121, 3) := by decide +kernel
theorem dX7_hashCards_17 : decode cX7_hashCards 17 = .ok (.getfield 125, 3) := by decide +kernel
theorem dX7_hashCards_20 : decode cX7_hashCards 20 = .ok (.if_icmp .ge 40, 3) := by decide +kernel
theorem dX7_hashCards_23 : decode cX7_hashCards 23 = .ok (.iconst 0, 1) := by decide +kernel
theorem dX7_hashCards_24 : decode cX7_hashCards 24 = .ok (.istore 6, 2) := by decide +kernel
theorem dX7_hashCards_26 : decode cX7_hashCards 26 = .ok (.iload 6, 2) := by decide +kernel
theorem dX7_hashCards_28 : decode cX7_hashCards 28 = .ok (.iconst 4, 1) := by decide +kernel
theorem dX7_hashCards_29 : decode cX7_hashCards 29 = .ok (.if_icmp .ge 25, 3) := by decide +kernel
theorem dX7_hashCards_32 : decode cX7_hashCards 32 = .ok (.ldc2_w 258, 3) := by decide +kernel
theorem dX7_hashCards_35 : decode cX7_hashCards 35 = .ok (.lload_n 3, 1) := by decide +kernel
theorem dX7_hashCards_36 : decode cX7_hashCards 36 = .ok (.lmul, 1) := by decide +kernel
theorem dX7_hashCards_37 : decode cX7_hashCards 37 = .ok (.aload_n 0, 1) := by decide +kernel
theorem dX7_hashCards_38 : decode cX7_hashCards 38 = .ok (.iload 5, 2) := by decide +kernel
theorem dX7_hashCards_40 : decode cX7_hashCards 40 = .ok (.iload 6, 2) := by decide +kernel
theorem dX7_hashCards_42 : decode cX7_hashCards 42 = .ok (.invokevirtual 297, 3) := by decide +kernel
theorem dX7_hashCards_45 : decode cX7_hashCards 45 = .ok (.i2l, 1) := by decide +kernel
theorem dX7_hashCards_46 : decode cX7_hashCards 46 = .ok (.ladd, 1) := by decide +kernel
theorem dX7_hashCards_47 : decode cX7_hashCards 47 = .ok (.lstore_n 3, 1) := by decide +kernel
theorem dX7_hashCards_48 : decode cX7_hashCards 48 = .ok (.iinc 6 1, 3) := by decide +kernel
theorem dX7_hashCards_51 : decode cX7_hashCards 51 = .ok (.goto (-25), 3) := by decide +kernel
theorem dX7_hashCards_54 : decode cX7_hashCards 54 = .ok (.iinc 5 1, 3) := by decide +kernel
theorem dX7_hashCards_57 : decode cX7_hashCards 57 = .ok (.goto (-52), 3) := by decide +kernel
theorem dX7_hashCards_60 : decode cX7_hashCards 60 = .ok (.lload_n 3, 1) := by decide +kernel
theorem dX7_hashCards_61 : decode cX7_hashCards 61 = .ok (.lreturn, 1) := by decide +kernel
theorem dX7_hashCloth_0 : decode cX7_hashCloth 0 = .ok (.lload_n 1, 1) := by decide +kernel
theorem dX7_hashCloth_1 : decode cX7_hashCloth 1 = .ok (.lstore_n 3, 1) := by decide +kernel
theorem dX7_hashCloth_2 : decode cX7_hashCloth 2 = .ok (.iconst 0, 1) := by decide +kernel
theorem dX7_hashCloth_3 : decode cX7_hashCloth 3 = .ok (.istore 5, 2) := by decide +kernel
theorem dX7_hashCloth_5 : decode cX7_hashCloth 5 = .ok (.iload 5, 2) := by decide +kernel
theorem dX7_hashCloth_7 : decode cX7_hashCloth 7 = .ok (.aload_n 0, 1) := by decide +kernel
theorem dX7_hashCloth_8 : decode cX7_hashCloth 8 = .ok (.getfield 12, 3) := by decide +kernel
theorem dX7_hashCloth_11 : decode cX7_hashCloth 11 = .ok (.getfield 166, 3) := by decide +kernel
theorem dX7_hashCloth_14 : decode cX7_hashCloth 14 = .ok (.getfield 170, 3) := by decide +kernel
theorem dX7_hashCloth_17 : decode cX7_hashCloth 17 = .ok (.if_icmp .ge 41, 3) := by decide +kernel
theorem dX7_hashCloth_20 : decode cX7_hashCloth 20 = .ok (.iconst 0, 1) := by decide +kernel
theorem dX7_hashCloth_21 : decode cX7_hashCloth 21 = .ok (.istore 6, 2) := by decide +kernel
theorem dX7_hashCloth_23 : decode cX7_hashCloth 23 = .ok (.iload 6, 2) := by decide +kernel
theorem dX7_hashCloth_25 : decode cX7_hashCloth 25 = .ok (.bipush 12, 2) := by decide +kernel
theorem dX7_hashCloth_27 : decode cX7_hashCloth 27 = .ok (.if_icmp .ge 25, 3) := by decide +kernel
theorem dX7_hashCloth_30 : decode cX7_hashCloth 30 = .ok (.ldc2_w 258, 3) := by decide +kernel
theorem dX7_hashCloth_33 : decode cX7_hashCloth 33 = .ok (.lload_n 3, 1) := by decide +kernel
theorem dX7_hashCloth_34 : decode cX7_hashCloth 34 = .ok (.lmul, 1) := by decide +kernel
theorem dX7_hashCloth_35 : decode cX7_hashCloth 35 = .ok (.aload_n 0, 1) := by decide +kernel
theorem dX7_hashCloth_36 : decode cX7_hashCloth 36 = .ok (.iload 5, 2) := by decide +kernel
theorem dX7_hashCloth_38 : decode cX7_hashCloth 38 = .ok (.iload 6, 2) := by decide +kernel
theorem dX7_hashCloth_40 : decode cX7_hashCloth 40 = .ok (.invokevirtual 300, 3) := by decide +kernel
theorem dX7_hashCloth_43 : decode cX7_hashCloth 43 = .ok (.i2l, 1) := by decide +kernel
theorem dX7_hashCloth_44 : decode cX7_hashCloth 44 = .ok (.ladd, 1) := by decide +kernel
theorem dX7_hashCloth_45 : decode cX7_hashCloth 45 = .ok (.lstore_n 3, 1) := by decide +kernel
theorem dX7_hashCloth_46 : decode cX7_hashCloth 46 = .ok (.iinc 6 1, 3) := by decide +kernel
theorem dX7_hashCloth_49 : decode cX7_hashCloth 49 = .ok (.goto (-26), 3) := by decide +kernel
theorem dX7_hashCloth_52 : decode cX7_hashCloth 52 = .ok (.iinc 5 1, 3) := by decide +kernel
theorem dX7_hashCloth_55 : decode cX7_hashCloth 55 = .ok (.goto (-50), 3) := by decide +kernel
theorem dX7_hashCloth_58 : decode cX7_hashCloth 58 = .ok (.lload_n 3, 1) := by decide +kernel
theorem dX7_hashCloth_59 : decode cX7_hashCloth 59 = .ok (.lreturn, 1) := by decide +kernel
theorem dX7_saveBeforeChange_0 : decode cX7_saveBeforeChange 0 = .ok (.aload_n 0, 1) := by decide +kernel
theorem dX7_saveBeforeChange_1 : decode cX7_saveBeforeChange 1 = .ok (.invokevirtual 142, 3) := by decide +kernel
theorem dX7_saveBeforeChange_4 : decode cX7_saveBeforeChange 4 = .ok (.aload_n 0, 1) := by decide +kernel
theorem dX7_saveBeforeChange_5 : decode cX7_saveBeforeChange 5 = .ok (.getfield 12, 3) := by decide +kernel
theorem dX7_saveBeforeChange_8 : decode cX7_saveBeforeChange 8 = .ok (.iconst 0, 1) := by decide +kernel
theorem dX7_saveBeforeChange_9 : decode cX7_saveBeforeChange 9 = .ok (.putfield 154, 3) := by decide +kernel
theorem dX7_saveBeforeChange_12 : decode cX7_saveBeforeChange 12 = .ok (.return_, 1) := by decide +kernel
theorem dX7_save_0 : decode cX7_save 0 = .ok (.aload_n 0, 1) := by decide +kernel
theorem dX7_save_1 : decode cX7_save 1 = .ok (.aload_n 0, 1) := by decide +kernel
theorem dX7_save_2 : decode cX7_save 2 = .ok (.getfield 24, 3) := by decide +kernel
theorem dX7_save_5 : decode cX7_save 5 = .ok (.iconst 1, 1) := by decide +kernel
theorem dX7_save_6 : decode cX7_save 6 = .ok (.iadd, 1) := by decide +kernel
theorem dX7_save_7 : decode cX7_save 7 = .ok (.bipush 6, 2) := by decide +kernel
theorem dX7_save_9 : decode cX7_save 9 = .ok (.invokestatic 248, 3) := by decide +kernel
theorem dX7_save_12 : decode cX7_save 12 = .ok (.putfield 24, 3) := by decide +kernel
theorem dX7_save_15 : decode cX7_save 15 = .ok (.aload_n 0, 1) := by decide +kernel
theorem dX7_save_16 : decode cX7_save 16 = .ok (.getfield 16, 3) := by decide +kernel
theorem dX7_save_19 : decode cX7_save 19 = .ok (.aload_n 0, 1) := by decide +kernel
theorem dX7_save_20 : decode cX7_save 20 = .ok (.getfield 24, 3) := by decide +kernel
theorem dX7_save_23 : decode cX7_save 23 = .ok (.aaload, 1) := by decide +kernel
theorem dX7_save_24 : decode cX7_save 24 = .ok (.aload_n 0, 1) := by decide +kernel
theorem dX7_save_25 : decode cX7_save 25 = .ok (.getfield 12, 3) := by decide +kernel
theorem dX7_save_28 : decode cX7_save 28 = .ok (.invokevirtual 253, 3) := by decide +kernel
theorem dX7_save_31 : decode cX7_save 31 = .ok (.aload_n 0, 1) := by decide +kernel
theorem dX7_save_32 : decode cX7_save 32 = .ok (.getfield 20, 3) := by decide +kernel
theorem dX7_save_35 : decode cX7_save 35 = .ok (.bipush 6, 2) := by decide +kernel
theorem dX7_save_37 : decode cX7_save 37 = .ok (.if_icmp .ge 13, 3) := by decide +kernel
theorem dX7_save_40 : decode cX7_save 40 = .ok (.aload_n 0, 1) := by decide +kernel
theorem dX7_save_41 : decode cX7_save 41 = .ok (.dup, 1) := by decide +kernel
theorem dX7_save_42 : decode cX7_save 42 = .ok (.getfield 20, 3) := by decide +kernel
theorem dX7_save_45 : decode cX7_save 45 = .ok (.iconst 1, 1) := by decide +kernel
theorem dX7_save_46 : decode cX7_save 46 = .ok (.iadd, 1) := by decide +kernel
theorem dX7_save_47 : decode cX7_save 47 = .ok (.putfield 20, 3) := by decide +kernel
theorem dX7_save_50 : decode cX7_save 50 = .ok (.return_, 1) := by decide +kernel
theorem dX7_cardsInText_0 : decode cX7_cardsInText 0 = .ok (.iconst 1, 1) := by decide +kernel
theorem dX7_cardsInText_1 : decode cX7_cardsInText 1 = .ok (.istore_n 1, 1) := by decide +kernel
theorem dX7_cardsInText_2 : decode cX7_cardsInText 2 = .ok (.iconst 0, 1) := by decide +kernel
theorem dX7_cardsInText_3 : decode cX7_cardsInText 3 = .ok (.istore_n 2, 1) := by decide +kernel
theorem dX7_cardsInText_4 : decode cX7_cardsInText 4 = .ok (.iload_n 2, 1) := by decide +kernel
theorem dX7_cardsInText_5 : decode cX7_cardsInText 5 = .ok (.aload_n 0, 1) := by decide +kernel
theorem dX7_cardsInText_6 : decode cX7_cardsInText 6 = .ok (.getfield 45, 3) := by decide +kernel
theorem dX7_cardsInText_9 : decode cX7_cardsInText 9 = .ok (.if_icmp .ge 29, 3) := by decide +kernel
theorem dX7_cardsInText_12 : decode cX7_cardsInText 12 = .ok (.iload_n 2, 1) := by decide +kernel
theorem dX7_cardsInText_13 : decode cX7_cardsInText 13 = .ok (.bipush 80, 2) := by decide +kernel
theorem dX7_cardsInText_15 : decode cX7_cardsInText 15 = .ok (.if_icmp .ge 23, 3) := by decide +kernel
theorem dX7_cardsInText_18 : decode cX7_cardsInText 18 = .ok (.aload_n 0, 1) := by decide +kernel
theorem dX7_cardsInText_19 : decode cX7_cardsInText 19 = .ok (.getfield 41, 3) := by decide +kernel
theorem dX7_cardsInText_22 : decode cX7_cardsInText 22 = .ok (.iload_n 2, 1) := by decide +kernel
theorem dX7_cardsInText_23 : decode cX7_cardsInText 23 = .ok (.caload, 1) := by decide +kernel
theorem dX7_cardsInText_24 : decode cX7_cardsInText 24 = .ok (.bipush 59, 2) := by decide +kernel
theorem dX7_cardsInText_26 : decode cX7_cardsInText 26 = .ok (.if_icmp .ne 6, 3) := by decide +kernel
theorem dX7_cardsInText_29 : decode cX7_cardsInText 29 = .ok (.iinc 1 1, 3) := by decide +kernel
theorem dX7_cardsInText_32 : decode cX7_cardsInText 32 = .ok (.iinc 2 1, 3) := by decide +kernel
theorem dX7_cardsInText_35 : decode cX7_cardsInText 35 = .ok (.goto (-31), 3) := by decide +kernel
theorem dX7_cardsInText_38 : decode cX7_cardsInText 38 = .ok (.iload_n 1, 1) := by decide +kernel
theorem dX7_cardsInText_39 : decode cX7_cardsInText 39 = .ok (.ireturn, 1) := by decide +kernel
theorem dX7_isWithin_0 : decode cX7_isWithin 0 = .ok (.iload_n 0, 1) := by decide +kernel
theorem dX7_isWithin_1 : decode cX7_isWithin 1 = .ok (.iload_n 1, 1) := by decide +kernel
theorem dX7_isWithin_2 : decode cX7_isWithin 2 = .ok (.if_icmp .lt 12, 3) := by decide +kernel
theorem dX7_isWithin_5 : decode cX7_isWithin 5 = .ok (.iload_n 0, 1) := by decide +kernel
theorem dX7_isWithin_6 : decode cX7_isWithin 6 = .ok (.iload_n 2, 1) := by decide +kernel
theorem dX7_isWithin_7 : decode cX7_isWithin 7 = .ok (.if_icmp .gt 7, 3) := by decide +kernel
theorem dX7_isWithin_10 : decode cX7_isWithin 10 = .ok (.iconst 1, 1) := by decide +kernel
theorem dX7_isWithin_11 : decode cX7_isWithin 11 = .ok (.goto 4, 3) := by decide +kernel
theorem dX7_isWithin_14 : decode cX7_isWithin 14 = .ok (.iconst 0, 1) := by decide +kernel
theorem dX7_isWithin_15 : decode cX7_isWithin 15 = .ok (.ireturn, 1) := by decide +kernel
theorem dX7_isShuttle_0 : decode cX7_isShuttle 0 = .ok (.iload_n 0, 1) := by decide +kernel
theorem dX7_isShuttle_1 : decode cX7_isShuttle 1 = .ok (.iconst 0, 1) := by decide +kernel
theorem dX7_isShuttle_2 : decode cX7_isShuttle 2 = .ok (.iconst 4, 1) := by decide +kernel
theorem dX7_isShuttle_3 : decode cX7_isShuttle 3 = .ok (.invokestatic 90, 3) := by decide +kernel
theorem dX7_isShuttle_6 : decode cX7_isShuttle 6 = .ok (.ireturn, 1) := by decide +kernel
theorem dX7_isThread_0 : decode cX7_isThread 0 = .ok (.iload_n 0, 1) := by decide +kernel
theorem dX7_isThread_1 : decode cX7_isThread 1 = .ok (.iconst 0, 1) := by decide +kernel
theorem dX7_isThread_2 : decode cX7_isThread 2 = .ok (.bipush 11, 2) := by decide +kernel
theorem dX7_isThread_4 : decode cX7_isThread 4 = .ok (.invokestatic 90, 3) := by decide +kernel
theorem dX7_isThread_7 : decode cX7_isThread 7 = .ok (.ireturn, 1) := by decide +kernel
theorem dX7_isBox_0 : decode cX7_isBox 0 = .ok (.iload_n 0, 1) := by decide +kernel
theorem dX7_isBox_1 : decode cX7_isBox 1 = .ok (.ifCond .ne 12, 3) := by decide +kernel
theorem dX7_isBox_4 : decode cX7_isBox 4 = .ok (.iload_n 1, 1) := by decide +kernel
theorem dX7_isBox_5 : decode cX7_isBox 5 = .ok (.iconst 0, 1) := by decide +kernel
theorem dX7_isBox_6 : decode cX7_isBox 6 = .ok (.iconst 3, 1) := by decide +kernel
theorem dX7_isBox_7 : decode cX7_isBox 7 = .ok (.invokestatic 90, 3) := by decide +kernel
theorem dX7_isBox_10 : decode cX7_isBox 10 = .ok (.ifCond .ne 17, 3) := by decide +kernel
theorem dX7_isBox_13 : decode cX7_isBox 13 = .ok (.iload_n 0, 1) := by decide +kernel
theorem dX7_isBox_14 : decode cX7_isBox 14 = .ok (.iconst 1, 1) := by decide +kernel
theorem dX7_isBox_15 : decode cX7_isBox 15 = .ok (.if_icmp .ne 16, 3) := by decide +kernel
theorem dX7_isBox_18 : decode cX7_isBox 18 = .ok (.iload_n 1, 1) := by decide +kernel
theorem dX7_isBox_19 : decode cX7_isBox 19 = .ok (.iconst 0, 1) := by decide +kernel
theorem dX7_isBox_20 : decode cX7_isBox 20 = .ok (.iconst 1, 1) := by decide +kernel
theorem dX7_isBox_21 : decode cX7_isBox 21 = .ok (.invokestatic 90, 3) := by decide +kernel
theorem dX7_isBox_24 : decode cX7_isBox 24 = .ok (.ifCond .eq 7, 3) := by decide +kernel
theorem dX7_isBox_27 : decode cX7_isBox 27 = .ok (.iconst 1, 1) := by decide +kernel
theorem dX7_isBox_28 : decode cX7_isBox 28 = .ok (.goto 4, 3) := by decide +kernel
theorem dX7_isBox_31 : decode cX7_isBox 31 = .ok (.iconst 0, 1) := by decide +kernel
theorem dX7_isBox_32 : decode cX7_isBox 32 = .ok (.ireturn, 1) := by decide +kernel
theorem dX7_contains_0 : decode cX7_contains 0 = .ok (.iload_n 0, 1) := by decide +kernel
theorem dX7_contains_1 : decode cX7_contains 1 = .ok (.iload_n 1, 1) := by decide +kernel
theorem dX7_contains_2 : decode cX7_contains 2 = .ok (.ishr, 1) := by decide +kernel
theorem dX7_contains_3 : decode cX7_contains 3 = .ok (.iconst 1, 1) := by decide +kernel
theorem dX7_contains_4 : decode cX7_contains 4 = .ok (.iand, 1) := by decide +kernel
theorem dX7_contains_5 : decode cX7_contains 5 = .ok (.iconst 1, 1) := by decide +kernel
theorem dX7_contains_6 : decode cX7_contains 6 = .ok (.if_icmp .ne 7, 3) := by decide +kernel
theorem dX7_contains_9 : decode cX7_contains 9 = .ok (.iconst 1, 1) := by decide +kernel
theorem dX7_contains_10 : decode cX7_contains 10 = .ok (.goto 4, 3) := by decide +kernel
theorem dX7_contains_13 : decode cX7_contains 13 = .ok (.iconst 0, 1) := by decide +kernel
theorem dX7_contains_14 : decode cX7_contains 14 = .ok (.ireturn, 1) := by decide +kernel
end
section
theorem dX8_init_0 : decode cX8_init 0 = .ok (.aload_n 0, 1) := by decide +kernel
theorem dX8_init_1 : decode cX8_init 1 = .ok (.invokespecial 1, 3) := by decide +kernel
theorem dX8_init_4 : decode cX8_init 4 = .ok (.aload_n 0, 1) := by decide +kernel
theorem dX8_init_5 : decode cX8_init 5 = .ok (.sipush 284, 3) := by decide +kernel
theorem dX8_init_8 : decode cX8_init 8 = .ok (.newarray .int, 2) := by decide +kernel
theorem dX8_init_10 : decode cX8_init 10 = .ok (.putfield 7, 3) := by decide +kernel
theorem dX8_init_13 : decode cX8_init 13 = .ok (.aload_n 0, 1) := by decide +kernel
theorem dX8_init_14 : decode cX8_init 14 = .ok (.sipush 284, 3) := by decide +kernel
theorem dX8_init_17 : decode cX8_init 17 = .ok (.newarray .int, 2) := by decide +kernel
theorem dX8_init_19 : decode cX8_init 19 = .ok (.putfield 13, 3) := by decide +kernel
theorem dX8_init_22 : decode cX8_init 22 = .ok (.aload_n 0, 1) := by decide +kernel
theorem dX8_init_23 : decode cX8_init 23 = .ok (.sipush 1704, 3) := by decide +kernel
theorem dX8_init_26 : decode cX8_init 26 = .ok (.newarray .int, 2) := by decide +kernel
theorem dX8_init_28 : decode cX8_init 28 = .ok (.putfield 16, 3) := by decide +kernel
theorem dX8_init_31 : decode cX8_init 31 = .ok (.aload_n 0, 1) := by decide +kernel
theorem dX8_init_32 : decode cX8_init 32 = .ok (.bipush 80, 2) := by decide +kernel
theorem dX8_init_34 : decode cX8_init 34 = .ok (.newarray .int, 2) := by decide +kernel
theorem dX8_init_36 : decode cX8_init 36 = .ok (.putfield 19, 3) := by decide +kernel
theorem dX8_init_39 : decode cX8_init 39 = .ok (.aload_n 0, 1) := by decide +kernel
theorem dX8_init_40 : decode cX8_init 40 = .ok (.getfield 7, 3) := by decide +kernel
theorem dX8_init_43 : decode cX8_init 43 = .ok (.iconst 2, 1) := by decide +kernel
theorem dX8_init_44 : decode cX8_init 44 = .ok (.iconst 1, 1) := by decide +kernel
theorem dX8_init_45 : decode cX8_init 45 = .ok (.iastore, 1) := by decide +kernel
theorem dX8_init_46 : decode cX8_init 46 = .ok (.aload_n 0, 1) := by decide +kernel
theorem dX8_init_47 : decode cX8_init 47 = .ok (.getfield 7, 3) := by decide +kernel
theorem dX8_init_50 : decode cX8_init 50 = .ok (.bipush 10, 2) := by decide +kernel
theorem dX8_init_52 : decode cX8_init 52 = .ok (.bipush (-6), 2) := by decide +kernel
theorem dX8_init_54 : decode cX8_init 54 = .ok (.iastore, 1) := by decide +kernel
theorem dX8_init_55 : decode cX8_init 55 = .ok (.iconst 0, 1) := by decide +kernel
theorem dX8_init_56 : decode cX8_init 56 = .ok (.istore_n 1, 1) := by decide +kernel
theorem dX8_init_57 : decode cX8_init 57 = .ok (.iload_n 1, 1) := by decide +kernel
theorem dX8_init_58 : decode cX8_init 58 = .ok (.iconst 5, 1) := by decide +kernel
theorem dX8_init_59 : decode cX8_init 59 = .ok (.if_icmp .ge 40, 3) := by decide +kernel
theorem dX8_init_62 : decode cX8_init 62 = .ok (.aload_n 0, 1) := by decide +kernel
theorem dX8_init_63 : decode cX8_init 63 = .ok (.iload_n 1, 1) := by decide +kernel
theorem dX8_init_64 : decode cX8_init 64 = .ok (.iconst 0, 1) := by decide +kernel
theorem dX8_init_65 : decode cX8_init 65 = .ok (.iload_n 1, 1) := by decide +kernel
theorem dX8_init_66 : decode cX8_init 66 = .ok (.invokevirtual 22, 3) := by decide +kernel
theorem dX8_init_69 : decode cX8_init 69 = .ok (.aload_n 0, 1) := by decide +kernel
theorem dX8_init_70 : decode cX8_init 70 = .ok (.iload_n 1, 1) := by decide +kernel
theorem dX8_init_71 : decode cX8_init 71 = .ok (.iconst 1, 1) := by decide +kernel
theorem dX8_init_72 : decode cX8_init 72 = .ok (.bipush 20, 2) := by decide +kernel
theorem dX8_init_74 : decode cX8_init 74 = .ok (.invokevirtual 22, 3) := by decide +kernel
theorem dX8_init_77 : decode cX8_init 77 = .ok (.aload_n 0, 1) := by decide +kernel
theorem dX8_init_78 : decode cX8_init 78 = .ok (.iload_n 1, 1) := by decide +kernel
theorem dX8_init_79 : decode cX8_init 79 = .ok (.iconst 2, 1) := by decide +kernel
theorem dX8_init_80 : decode cX8_init 80 = .ok (.bipush (-6), 2) := by decide +kernel
theorem dX8_init_82 : decode cX8_init 82 = .ok (.invokevirtual 22, 3) := by decide +kernel
theorem dX8_init_85 : decode cX8_init 85 = .ok (.aload_n 0, 1) := by decide +kernel
theorem dX8_init_86 : decode cX8_init 86 = .ok (.iload_n 1, 1) := by decide +kernel
theorem dX8_init_87 : decode cX8_init 87 = .ok (.iconst 3, 1) := by decide +kernel
theorem dX8_init_88 : decode cX8_init 88 = .ok (.bipush (-6), 2) := by decide +kernel
theorem dX8_init_90 : decode cX8_init 90 = .ok (.invokevirtual 22, 3) := by decide +kernel
theorem dX8_init_93 : decode cX8_init 93 = .ok (.iinc 1 1, 3) := by decide +kernel
theorem dX8_init_96 : decode cX8_init 96 = .ok (.goto (-39), 3) := by decide +kernel
theorem dX8_init_99 : decode cX8_init 99 = .ok (.iconst 0, 1) := by decide +kernel
theorem dX8_init_100 : decode cX8_init 100 = .ok (.istore_n 1, 1) := by decide +kernel
theorem dX8_init_101 : decode cX8_init 101 = .ok (.iload_n 1, 1) := by decide +kernel
theorem dX8_init_102 : decode cX8_init 102 = .ok (.bipush 12, 2) := by decide +kernel
theorem dX8_init_104 : decode cX8_init 104 = .ok (.if_icmp .ge 27, 3) := by decide +kernel
theorem dX8_init_107 : decode cX8_init 107 = .ok (.aload_n 0, 1) := by decide +kernel
theorem dX8_init_108 : decode cX8_init 108 = .ok (.iload_n 1, 1) := by decide +kernel
theorem dX8_init_109 : decode cX8_init 109 = .ok (.iconst 0, 1) := by decide +kernel
theorem dX8_init_110 : decode cX8_init 110 = .ok (.iload_n 1, 1) := by decide +kernel
theorem dX8_init_111 : decode cX8_init 111 = .ok (.bipush 6, 2) := by decide +kernel
theorem dX8_init_113 : decode cX8_init 113 = .ok (.irem, 1) := by decide +kernel
theorem dX8_init_114 : decode cX8_init 114 = .ok (.invokevirtual 26, 3) := by decide +kernel
theorem dX8_init_117 : decode cX8_init 117 = .ok (.aload_n 0, 1) := by decide +kernel
theorem dX8_init_118 : decode cX8_init 118 = .ok (.iload_n 1, 1) := by decide +kernel
theorem dX8_init_119 : decode cX8_init 119 = .ok (.iconst 1, 1) := by decide +kernel
theorem dX8_init_120 : decode cX8_init 120 = .ok (.bipush 60, 2) := by decide +kernel
theorem dX8_init_122 : decode cX8_init 122 = .ok (.invokevirtual 26, 3) := by decide +kernel
theorem dX8_init_125 : decode cX8_init 125 = .ok (.iinc 1 1, 3) := by decide +kernel
theorem dX8_init_128 : decode cX8_init 128 = .ok (.goto (-27), 3) := by decide +kernel
theorem dX8_init_131 : decode cX8_init 131 = .ok (.return_, 1) := by decide +kernel
theorem dX8_within_0 : decode cX8_within 0 = .ok (.iload_n 0, 1) := by decide +kernel
theorem dX8_within_1 : decode cX8_within 1 = .ok (.iload_n 1, 1) := by decide +kernel
theorem dX8_within_2 : decode cX8_within 2 = .ok (.if_icmp .lt 12, 3) := by decide +kernel
theorem dX8_within_5 : decode cX8_within 5 = .ok (.iload_n 0, 1) := by decide +kernel
theorem dX8_within_6 : decode cX8_within 6 = .ok (.iload_n 2, 1) := by decide +kernel
theorem dX8_within_7 : decode cX8_within 7 = .ok (.if_icmp .gt 7, 3) := by decide +kernel
theorem dX8_within_10 : decode cX8_within 10 = .ok (.iconst 1, 1) := by decide +kernel
theorem dX8_within_11 : decode cX8_within 11 = .ok (.goto 4, 3) := by decide +kernel
theorem dX8_within_14 : decode cX8_within 14 = .ok (.iconst 0, 1) := by decide +kernel
theorem dX8_within_15 : decode cX8_within 15 = .ok (.ireturn, 1) := by decide +kernel
theorem dX8_copies_0 : decode cX8_copies 0 = .ok (.iconst 0, 1) := by decide +kernel
theorem dX8_copies_1 : decode cX8_copies 1 = .ok (.istore 4, 2) := by decide +kernel
theorem dX8_copies_3 : decode cX8_copies 3 = .ok (.iload 4, 2) := by decide +kernel
theorem dX8_copies_5 : decode cX8_copies 5 = .ok (.sipush 284, 3) := by decide +kernel
theorem dX8_copies_8 : decode cX8_copies 8 = .ok (.if_icmp .ge 21, 3) := by decide +kernel
theorem dX8_copies_11 : decode cX8_copies 11 = .ok (.aload_n 2, 1) := by decide +kernel
theorem dX8_copies_12 : decode cX8_copies 12 = .ok (.iload_n 3, 1) := by decide +kernel
theorem dX8_copies_13 : decode cX8_copies 13 = .ok (.iload 4, 2) := by decide +kernel
theorem dX8_copies_15 : decode cX8_copies 15 = .ok (.iadd, 1) := by decide +kernel
theorem dX8_copies_16 : decode cX8_copies 16 = .ok (.aload_n 0, 1) := by decide +kernel
theorem dX8_copies_17 : decode cX8_copies 17 = .ok (.iload_n 1, 1) := by decide +kernel
theorem dX8_copies_18 : decode cX8_copies 18 = .ok (.iload 4, 2) := by decide +kernel
theorem dX8_copies_20 : decode cX8_copies 20 = .ok (.iadd, 1) := by decide +kernel
theorem dX8_copies_21 : decode cX8_copies 21 = .ok (.iaload, 1) := by decide +kernel
theorem dX8_copies_22 : decode cX8_copies 22 = .ok (.iastore, 1) := by decide +kernel
theorem dX8_copies_23 : decode cX8_copies 23 = .ok (.iinc 4 1, 3) := by decide +kernel
theorem dX8_copies_26 : decode cX8_copies 26 = .ok (.goto (-23), 3) := by decide +kernel
theorem dX8_copies_29 : decode cX8_copies 29 = .ok (.return_, 1) := by decide +kernel
theorem dX8_record_0 : decode cX8_record 0 = .ok (.aload_n 0, 1) := by decide +kernel
theorem dX8_record_1 : decode cX8_record 1 = .ok (.getfield 29, 3) := by decide +kernel
theorem dX8_record_4 : decode cX8_record 4 = .ok (.bipush 6, 2) := by decide +kernel
theorem dX8_record_6 : decode cX8_record 6 = .ok (.if_icmp .ne 44, 3) := by decide +kernel
theorem dX8_record_9 : decode cX8_record 9 = .ok (.iconst 0, 1) := by decide +kernel
theorem dX8_record_10 : decode cX8_record 10 = .ok (.istore_n 1, 1) := by decide +kernel
theorem dX8_record_11 : decode cX8_record 11 = .ok (.iload_n 1, 1) := by decide +kernel
theorem dX8_record_12 : decode cX8_record 12 = .ok (.sipush 1420, 3) := by decide +kernel
theorem dX8_record_15 : decode cX8_record 15 = .ok (.if_icmp .ge 25, 3) := by decide +kernel
theorem dX8_record_18 : decode cX8_record 18 = .ok (.aload_n 0, 1) := by decide +kernel
theorem dX8_record_19 : decode cX8_record 19 = .ok (.getfield 16, 3) := by decide +kernel
theorem dX8_record_22 : decode cX8_record 22 = .ok (.iload_n 1, 1) := by decide +kernel
theorem dX8_record_23 : decode cX8_record 23 = .ok (.aload_n 0, 1) := by decide +kernel
theorem dX8_record_24 : decode cX8_record 24 = .ok (.getfield 16, 3) := by decide +kernel
theorem dX8_record_27 : decode cX8_record 27 = .ok (.iload_n 1, 1) := by decide +kernel
theorem dX8_record_28 : decode cX8_record 28 = .ok (.sipush 284, 3) := by decide +kernel
theorem dX8_record_31 : decode cX8_record 31 = .ok (.iadd, 1) := by decide +kernel
theorem dX8_record_32 : decode cX8_record 32 = .ok (.iaload, 1) := by decide +kernel
theorem dX8_record_33 : decode cX8_record 33 = .ok (.iastore, 1) := by decide +kernel
theorem dX8_record_34 : decode cX8_record 34 = .ok (.iinc 1 1, 3) := by decide +kernel
theorem dX8_record_37 : decode cX8_record 37 = .ok (.goto (-26), 3) := by decide +kernel
theorem dX8_record_40 : decode cX8_record 40 = .ok (.aload_n 0, 1) := by decide +kernel
theorem dX8_record_41 : decode cX8_record 41 = .ok (.dup, 1) := by decide +kernel
theorem dX8_record_42 : decode cX8_record 42 = .ok (.getfield 29, 3) := by decide +kernel
theorem dX8_record_45 : decode cX8_record 45 = .ok (.iconst 1, 1) := by decide +kernel
theorem dX8_record_46 : decode cX8_record 46 = .ok (.isub, 1) := by decide +kernel
theorem dX8_record_47 : decode cX8_record 47 = .ok (.putfield 29, 3) := by decide +kernel
theorem dX8_record_50 : decode cX8_record 50 = .ok (.aload_n 0, 1) := by decide +kernel
theorem dX8_record_51 : decode cX8_record 51 = .ok (.getfield 7, 3) := by decide +kernel
theorem dX8_record_54 : decode cX8_record 54 = .ok (.iconst 0, 1) := by decide +kernel
theorem dX8_record_55 : decode cX8_record 55 = .ok (.aload_n 0, 1) := by decide +kernel
theorem dX8_record_56 : decode cX8_record 56 = .ok (.getfield 16, 3) := by decide +kernel
theorem dX8_record_59 : decode cX8_record 59 = .ok (.aload_n 0, 1) := by decide +kernel
theorem dX8_record_60 : decode cX8_record 60 = .ok (.getfield 29, 3) := by decide +kernel
theorem dX8_record_63 : decode cX8_record 63 = .ok (.sipush 284, 3) := by decide +kernel
theorem dX8_record_66 : decode cX8_record 66 = .ok (.imul, 1) := by decide +kernel
theorem dX8_record_67 : decode cX8_record 67 = .ok (.invokestatic 33, 3) := by decide +kernel
theorem dX8_record_70 : decode cX8_record 70 = .ok (.aload_n 0, 1) := by decide +kernel
theorem dX8_record_71 : decode cX8_record 71 = .ok (.dup, 1) := by decide +kernel
theorem dX8_record_72 : decode cX8_record 72 = .ok (.getfield 29, 3) := by decide +kernel
theorem dX8_record_75 : decode cX8_record 75 = .ok (.iconst 1, 1) := by decide +kernel
theorem dX8_record_76 : decode cX8_record 76 = .ok (.iadd, 1) := by decide +kernel
theorem dX8_record_77 : decode cX8_record 77 = .ok (.putfield 29, 3) := by decide +kernel
theorem dX8_record_80 : decode cX8_record 80 = .ok (.return_, 1) := by decide +kernel
theorem dX8_recordOther_0 : decode cX8_recordOther 0 = .ok (.aload_n 0, 1) := by decide +kernel
theorem dX8_recordOther_1 : decode cX8_recordOther 1 = .ok (.invokevirtual 37, 3) := by decide +kernel
theorem dX8_recordOther_4 : decode cX8_recordOther 4 = .ok (.aload_n 0, 1) := by decide +kernel
theorem dX8_recordOther_5 : decode cX8_recordOther 5 = .ok (.getfield 7, 3) := by decide +kernel
theorem dX8_recordOther_8 : decode cX8_recordOther 8 = .ok (.bipush 8, 2) := by decide +kernel
theorem dX8_recordOther_10 : decode cX8_recordOther 10 = .ok (.iconst 0, 1) := by decide +kernel
theorem dX8_recordOther_11 : decode cX8_recordOther 11 = .ok (.iastore, 1) := by decide +kernel
theorem dX8_recordOther_12 : decode cX8_recordOther 12 = .ok (.return_, 1) := by decide +kernel
theorem dX8_shuttlePart_0 : decode cX8_shuttlePart 0 = .ok (.aload_n 0, 1) := by decide +kernel
theorem dX8_shuttlePart_1 : decode cX8_shuttlePart 1 = .ok (.getfield 7, 3) := by decide +kernel
theorem dX8_shuttlePart_4 : decode cX8_shuttlePart 4 = .ok (.bipush 12, 2) := by decide +kernel
theorem dX8_shuttlePart_6 : decode cX8_shuttlePart 6 = .ok (.iconst 4, 1) := by decide +kernel
theorem dX8_shuttlePart_7 : decode cX8_shuttlePart 7 = .ok (.iload_n 1, 1) := by decide +kernel
theorem dX8_shuttlePart_8 : decode cX8_shuttlePart 8 = .ok (.imul, 1) := by decide +kernel
theorem dX8_shuttlePart_9 : decode cX8_shuttlePart 9 = .ok (.iadd, 1) := by decide +kernel
theorem dX8_shuttlePart_10 : decode cX8_shuttlePart 10 = .ok (.iload_n 2, 1) := by decide +kernel
theorem dX8_shuttlePart_11 : decode cX8_shuttlePart 11 = .ok (.iadd, 1) := by decide +kernel
theorem dX8_shuttlePart_12 : decode cX8_shuttlePart 12 = .ok (.iaload, 1) := by decide +kernel
theorem dX8_shuttlePart_13 : decode cX8_shuttlePart 13 = .ok (.ireturn, 1) := by decide +kernel
theorem dX8_setShuttle_0 : decode cX8_setShuttle 0 = .ok (.aload_n 0, 1) := by decide +kernel
theorem dX8_setShuttle_1 : decode cX8_setShuttle 1 = .ok (.getfield 7, 3) := by decide +kernel
theorem dX8_setShuttle_4 : decode cX8_setShuttle 4 = .ok (.bipush 12, 2) := by decide +kernel
theorem dX8_setShuttle_6 : decode cX8_setShuttle 6 = .ok (.iconst 4, 1) := by decide +kernel
theorem dX8_setShuttle_7 : decode cX8_setShuttle 7 = .ok (.iload_n 1, 1) := by decide +kernel
theorem dX8_setShuttle_8 : decode cX8_setShuttle 8 = .ok (.imul, 1) := by decide +kernel
theorem dX8_setShuttle_9 : decode cX8_setShuttle 9 = .ok (.iadd, 1) := by decide +kernel
theorem dX8_setShuttle_10 : decode cX8_setShuttle 10 = .ok (.iload_n 2, 1) := by decide +kernel
theorem dX8_setShuttle_11 : decode cX8_setShuttle 11 = .ok (.iadd, 1) := by decide +kernel
theorem dX8_setShuttle_12 : decode cX8_setShuttle 12 = .ok (.iload_n 3, 1) := by decide +kernel
theorem dX8_setShuttle_13 : decode cX8_setShuttle 13 = .ok (.iastore, 1) := by decide +kernel
theorem dX8_setShuttle_14 : decode cX8_setShuttle 14 = .ok (.return_, 1) := by decide +kernel
theorem dX8_threadPart_0 : decode cX8_threadPart 0 = .ok (.aload_n 0, 1) := by decide +kernel
theorem dX8_threadPart_1 : decode cX8_threadPart 1 = .ok (.getfield 7, 3) := by decide +kernel
theorem dX8_threadPart_4 : decode cX8_threadPart 4 = .ok (.bipush 32, 2) := by decide +kernel
theorem dX8_threadPart_6 : decode cX8_threadPart 6 = .ok (.iconst 2, 1) := by decide +kernel
theorem dX8_threadPart_7 : decode cX8_threadPart 7 = .ok (.iload_n 1, 1) := by decide +kernel
theorem dX8_threadPart_8 : decode cX8_threadPart 8 = .ok (.imul, 1) := by decide +kernel
theorem dX8_threadPart_9 : decode cX8_threadPart 9 = .ok (.iadd, 1) := by decide +kernel
theorem dX8_threadPart_10 : decode cX8_threadPart 10 = .ok (.iload_n 2, 1) := by decide +kernel
theorem dX8_threadPart_11 : decode cX8_threadPart 11 = .ok (.iadd, 1) := by decide +kernel
theorem dX8_threadPart_12 : decode cX8_threadPart 12 = .ok (.iaload, 1) := by decide +kernel
theorem dX8_threadPart_13 : decode cX8_threadPart 13 = .ok (.ireturn, 1) := by decide +kernel
theorem dX8_setThread_0 : decode cX8_setThread 0 = .ok (.aload_n 0, 1) := by decide +kernel
theorem dX8_setThread_1 : decode cX8_setThread 1 = .ok (.getfield 7, 3) := by decide +kernel
theorem dX8_setThread_4 : decode cX8_setThread 4 = .ok (.bipush 32, 2) := by decide +kernel
theorem dX8_setThread_6 : decode cX8_setThread 6 = .ok (.iconst 2, 1) := by decide +kernel
theorem dX8_setThread_7 : decode cX8_setThread 7 = .ok (.iload_n 1, 1) := by decide +kernel
theorem dX8_setThread_8 : decode cX8_setThread 8 = .ok (.imul, 1) := by decide +kernel
theorem dX8_setThread_9 : decode cX8_setThread 9 = .ok (.iadd, 1) := by decide +kernel
theorem dX8_setThread_10 : decode cX8_setThread 10 = .ok (.iload_n 2, 1) := by decide +kernel
theorem dX8_setThread_11 : decode cX8_setThread 11 = .ok (.iadd, 1) := by decide +kernel
theorem dX8_setThread_12 : decode cX8_setThread 12 = .ok (.iload_n 3, 1) := by decide +kernel
theorem dX8_setThread_13 : decode cX8_setThread 13 = .ok (.iastore, 1) := by decide +kernel
theorem dX8_setThread_14 : decode cX8_setThread 14 = .ok (.return_, 1) := by decide +kernel
theorem dX8_cardPart_0 : decode cX8_cardPart 0 = .ok (.aload_n 0, 1) := by decide +kernel
theorem dX8_cardPart_1 : decode cX8_cardPart 1 = .ok (.getfield 7, 3) := by decide +kernel
theorem dX8_cardPart_4 : decode cX8_cardPart 4 = .ok (.bipush 56, 2) := by decide +kernel
theorem dX8_cardPart_6 : decode cX8_cardPart 6 = .ok (.iconst 3, 1) := by decide +kernel
theorem dX8_cardPart_7 : decode cX8_cardPart 7 = .ok (.iload_n 1, 1) := by decide +kernel
theorem dX8_cardPart_8 : decode cX8_cardPart 8 = .ok (.imul, 1) := by decide +kernel
theorem dX8_cardPart_9 : decode cX8_cardPart 9 = .ok (.iadd, 1) := by decide +kernel
theorem dX8_cardPart_10 : decode cX8_cardPart 10 = .ok (.iload_n 2, 1) := by decide +kernel
theorem dX8_cardPart_11 : decode cX8_cardPart 11 = .ok (.iadd, 1) := by decide +kernel
theorem dX8_cardPart_12 : decode cX8_cardPart 12 = .ok (.iaload, 1) := by decide +kernel
theorem dX8_cardPart_13 : decode cX8_cardPart 13 = .ok (.ireturn, 1) := by decide +kernel
theorem dX8_rowPart_0 : decode cX8_rowPart 0 = .ok (.aload_n 0, 1) := by decide +kernel
theorem dX8_rowPart_1 : decode cX8_rowPart 1 = .ok (.getfield 7, 3) := by decide +kernel
theorem dX8_rowPart_4 : decode cX8_rowPart 4 = .ok (.bipush 104, 2) := by decide +kernel
theorem dX8_rowPart_6 : decode cX8_rowPart 6 = .ok (.bipush 9, 2) := by decide +kernel
theorem dX8_rowPart_8 : decode cX8_rowPart 8 = .ok (.iload_n 1, 1) := by decide +kernel
theorem dX8_rowPart_9 : decode cX8_rowPart 9 = .ok (.imul, 1) := by decide +kernel
theorem dX8_rowPart_10 : decode cX8_rowPart 10 = .ok (.iadd, 1) := by decide +kernel
theorem dX8_rowPart_11 : decode cX8_rowPart 11 = .ok (.iload_n 2, 1) := by decide +kernel
theorem dX8_rowPart_12 : decode cX8_rowPart 12 = .ok (.iadd, 1) := by decide +kernel
theorem dX8_rowPart_13 : decode cX8_rowPart 13 = .ok (.iaload, 1) := by decide +kernel
theorem dX8_rowPart_14 : decode cX8_rowPart 14 = .ok (.ireturn, 1) := by decide +kernel
theorem dX8_isShuttle_0 : decode cX8_isShuttle 0 = .ok (.iload_n 0, 1) := by decide +kernel
theorem dX8_isShuttle_1 : decode cX8_isShuttle 1 = .ok (.iconst 0, 1) := by decide +kernel
theorem dX8_isShuttle_2 : decode cX8_isShuttle 2 = .ok (.iconst 4, 1) := by decide +kernel
theorem dX8_isShuttle_3 : decode cX8_isShuttle 3 = .ok (.invokestatic 40, 3) := by decide +kernel
theorem dX8_isShuttle_6 : decode cX8_isShuttle 6 = .ok (.ireturn, 1) := by decide +kernel
theorem dX8_isThread_0 : decode cX8_isThread 0 = .ok (.iload_n 0, 1) := by decide +kernel
theorem dX8_isThread_1 : decode cX8_isThread 1 = .ok (.iconst 0, 1) := by decide +kernel
theorem dX8_isThread_2 : decode cX8_isThread 2 = .ok (.bipush 11, 2) := by decide +kernel
theorem dX8_isThread_4 : decode cX8_isThread 4 = .ok (.invokestatic 40, 3) := by decide +kernel
theorem dX8_isThread_7 : decode cX8_isThread 7 = .ok (.ireturn, 1) := by decide +kernel
theorem dX8_isBox_0 : decode cX8_isBox 0 = .ok (.iload_n 0, 1) := by decide +kernel
theorem dX8_isBox_1 : decode cX8_isBox 1 = .ok (.iconst 0, 1) := by decide +kernel
theorem dX8_isBox_2 : decode cX8_isBox 2 = .ok (.iconst 1, 1) := by decide +kernel
theorem dX8_isBox_3 : decode cX8_isBox 3 = .ok (.invokestatic 40, 3) := by decide +kernel
theorem dX8_isBox_6 : decode cX8_isBox 6 = .ok (.ifCond .eq 24, 3) := by decide +kernel
theorem dX8_isBox_9 : decode cX8_isBox 9 = .ok (.iload_n 1, 1) := by decide +kernel
theorem dX8_isBox_10 : decode cX8_isBox 10 = .ok (.iconst 0, 1) := by decide +kernel
theorem dX8_isBox_11 : decode cX8_isBox 11 = .ok (.iload_n 0, 1) := by decide +kernel
theorem dX8_isBox_12 : decode cX8_isBox 12 = .ok (.ifCond .ne 7, 3) := by decide +kernel
theorem dX8_isBox_15 : decode cX8_isBox 15 = .ok (.iconst 3, 1) := by decide +kernel
theorem dX8_isBox_16 : decode cX8_isBox 16 = .ok (.goto 4, 3) := by decide +kernel
theorem dX8_isBox_19 : decode cX8_isBox 19 = .ok (.iconst 1, 1) := by decide +kernel
theorem dX8_isBox_20 : decode cX8_isBox 20 = .ok (.invokestatic 40, 3) := by decide +kernel
theorem dX8_isBox_23 : decode cX8_isBox 23 = .ok (.ifCond .eq 7, 3) := by decide +kernel
theorem dX8_isBox_26 : decode cX8_isBox 26 = .ok (.iconst 1, 1) := by decide +kernel
theorem dX8_isBox_27 : decode cX8_isBox 27 = .ok (.goto 4, 3) := by decide +kernel
theorem dX8_isBox_30 : decode cX8_isBox 30 = .ok (.iconst 0, 1) := by decide +kernel
theorem dX8_isBox_31 : decode cX8_isBox 31 = .ok (.ireturn, 1) := by decide +kernel
theorem dX8_isCard_0 : decode cX8_isCard 0 = .ok (.iload_n 1, 1) := by decide +kernel
theorem dX8_isCard_1 : decode cX8_isCard 1 = .ok (.iconst 0, 1) := by decide +kernel
theorem dX8_isCard_2 : decode cX8_isCard 2 = .ok (.aload_n 0, 1) := by decide +kernel
theorem dX8_isCard_3 : decode cX8_isCard 3 = .ok (.getfield 7, 3) := by decide +kernel
theorem dX8_isCard_6 : decode cX8_isCard 6 = .ok (.iconst 0, 1) := by decide +kernel
theorem dX8_isCard_7 : decode cX8_isCard 7 = .ok (.iaload, 1) := by decide +kernel
theorem dX8_isCard_8 : decode cX8_isCard 8 = .ok (.iconst 1, 1) := by decide +kernel
theorem dX8_isCard_9 : decode cX8_isCard 9 = .ok (.isub, 1) := by decide +kernel
theorem dX8_isCard_10 : decode cX8_isCard 10 = .ok (.invokestatic 40, 3) := by decide +kernel
theorem dX8_isCard_13 : decode cX8_isCard 13 = .ok (.ireturn, 1) := by decide +kernel
theorem dX8_shuttleIn_0 : decode cX8_shuttleIn 0 = .ok (.bipush (-6), 2) := by decide +kernel
theorem dX8_shuttleIn_2 : decode cX8_shuttleIn 2 = .ok (.istore_n 3, 1) := by decide +kernel
theorem dX8_shuttleIn_3 : decode cX8_shuttleIn 3 = .ok (.iconst 0, 1) := by decide +kernel
theorem dX8_shuttleIn_4 : decode cX8_shuttleIn 4 = .ok (.istore 4, 2) := by decide +kernel
theorem dX8_shuttleIn_6 : decode cX8_shuttleIn 6 = .ok (.iload 4, 2) := by decide +kernel
theorem dX8_shuttleIn_8 : decode cX8_shuttleIn 8 = .ok (.iconst 5, 1) := by decide +kernel
theorem dX8_shuttleIn_9 : decode cX8_shuttleIn 9 = .ok (.if_icmp .ge 38, 3) := by decide +kernel
theorem dX8_shuttleIn_12 : decode cX8_shuttleIn 12 = .ok (.aload_n 0, 1) := by decide +kernel
theorem dX8_shuttleIn_13 : decode cX8_shuttleIn 13 = .ok (.iload 4, 2) := by decide +kernel
theorem dX8_shuttleIn_15 : decode cX8_shuttleIn 15 = .ok (.iconst 2, 1) := by decide +kernel
theorem dX8_shuttleIn_16 : decode cX8_shuttleIn 16 = .ok (.invokevirtual 44, 3) := by decide +kernel
theorem dX8_shuttleIn_19 : decode cX8_shuttleIn 19 = .ok (.iload_n 1, 1) := by decide +kernel
theorem dX8_shuttleIn_20 : decode cX8_shuttleIn 20 = .ok (.if_icmp .ne 19, 3) := by decide +kernel
theorem dX8_shuttleIn_23 : decode cX8_shuttleIn 23 = .ok (.aload_n 0, 1) := by decide +kernel
theorem dX8_shuttleIn_24 : decode cX8_shuttleIn 24 = .ok (.iload 4, 2) := by decide +kernel
theorem dX8_shuttleIn_26 : decode cX8_shuttleIn 26 = .ok (.iconst 3, 1) := by decide +kernel
theorem dX8_shuttleIn_27 : decode cX8_shuttleIn 27 = .ok (.invokevirtual 44, 3) := by decide +kernel
theorem dX8_shuttleIn_30 : decode cX8_shuttleIn 30 = .ok (.iload_n 2, 1) := by decide +kernel
theorem dX8_shuttleIn_31 : decode cX8_shuttleIn 31 = .ok (.if_icmp .ne 8, 3) := by decide +kernel
theorem dX8_shuttleIn_34 : decode cX8_shuttleIn 34 = .ok (.iload 4, 2) := by decide +kernel
theorem dX8_shuttleIn_36 : decode cX8_shuttleIn 36 = .ok (.goto 4, 3) := by decide +kernel
theorem dX8_shuttleIn_39 : decode cX8_shuttleIn 39 = .ok (.iload_n 3, 1) := by decide +kernel
theorem dX8_shuttleIn_40 : decode cX8_shuttleIn 40 = .ok (.istore_n 3, 1) := by decide +kernel
theorem dX8_shuttleIn_41 : decode cX8_shuttleIn 41 = .ok (.iinc 4 1, 3) := by decide +kernel
theorem dX8_shuttleIn_44 : decode cX8_shuttleIn 44 = .ok (.goto (-38), 3) := by decide +kernel
theorem dX8_shuttleIn_47 : decode cX8_shuttleIn 47 = .ok (.iload_n 3, 1) := by decide +kernel
theorem dX8_shuttleIn_48 : decode cX8_shuttleIn 48 = .ok (.ireturn, 1) := by decide +kernel
theorem dX8_threadsOf_0 : decode cX8_threadsOf 0 = .ok (.iconst 0, 1) := by decide +kernel
theorem dX8_threadsOf_1 : decode cX8_threadsOf 1 = .ok (.istore_n 2, 1) := by decide +kernel
theorem dX8_threadsOf_2 : decode cX8_threadsOf 2 = .ok (.iconst 0, 1) := by decide +kernel
theorem dX8_threadsOf_3 : decode cX8_threadsOf 3 = .ok (.istore_n 3, 1) := by decide +kernel
theorem dX8_threadsOf_4 : decode cX8_threadsOf 4 = .ok (.iload_n 3, 1) := by decide +kernel
theorem dX8_threadsOf_5 : decode cX8_threadsOf 5 = .ok (.bipush 12, 2) := by decide +kernel
theorem dX8_threadsOf_7 : decode cX8_threadsOf 7 = .ok (.if_icmp .ge 24, 3) := by decide +kernel
theorem dX8_threadsOf_10 : decode cX8_threadsOf 10 = .ok (.iload_n 2, 1) := by decide +kernel
theorem dX8_threadsOf_11 : decode cX8_threadsOf 11 = .ok (.iload_n 1, 1) := by decide +kernel
theorem dX8_threadsOf_12 : decode cX8_threadsOf 12 = .ok (.aload_n 0, 1) := by decide +kernel
theorem dX8_threadsOf_13 : decode cX8_threadsOf 13 = .ok (.iload_n 3, 1) := by decide +kernel
theorem dX8_threadsOf_14 : decode cX8_threadsOf 14 = .ok (.iconst 0, 1) := by decide +kernel
theorem dX8_threadsOf_15 : decode cX8_threadsOf 15 = .ok (.invokevirtual 48, 3) := by decide +kernel
theorem dX8_threadsOf_18 : decode cX8_threadsOf 18 = .ok (.ishr, 1) := by decide +kernel
theorem dX8_threadsOf_19 : decode cX8_threadsOf 19 = .ok (.iconst 1, 1) := by decide +kernel
theorem dX8_threadsOf_20 : decode cX8_threadsOf 20 = .ok (.iand, 1) := by decide +kernel
theorem dX8_threadsOf_21 : decode cX8_threadsOf 21 = .ok (.iload_n 3, 1) := by decide +kernel
theorem dX8_threadsOf_22 : decode cX8_threadsOf 22 = .ok (.ishl, 1) := by decide +kernel
theorem dX8_threadsOf_23 : decode cX8_threadsOf 23 = .ok (.ior, 1) := by decide +kernel
theorem dX8_threadsOf_24 : decode cX8_threadsOf 24 = .ok (.istore_n 2, 1) := by decide +kernel
theorem dX8_threadsOf_25 : decode cX8_threadsOf 25 = .ok (.iinc 3 1, 3) := by decide +kernel
theorem dX8_threadsOf_28 : decode cX8_threadsOf 28 = .ok (.goto (-24), 3) := by decide +kernel
theorem dX8_threadsOf_31 : decode cX8_threadsOf 31 = .ok (.iload_n 2, 1) := by decide +kernel
theorem dX8_threadsOf_32 : decode cX8_threadsOf 32 = .ok (.ireturn, 1) := by decide +kernel
theorem dX8_firstBroken_0 : decode cX8_firstBroken 0 = .ok (.bipush (-6), 2) := by decide +kernel
theorem dX8_firstBroken_2 : decode cX8_firstBroken 2 = .ok (.istore_n 1, 1) := by decide +kernel
theorem dX8_firstBroken_3 : decode cX8_firstBroken 3 = .ok (.bipush 11, 2) := by decide +kernel
theorem dX8_firstBroken_5 : decode cX8_firstBroken 5 = .ok (.istore_n 2, 1) := by decide +kernel
theorem dX8_firstBroken_6 : decode cX8_firstBroken 6 = .ok (.iload_n 2, 1) := by decide +kernel
theorem dX8_firstBroken_7 : decode cX8_firstBroken 7 = .ok (.ifCond .lt 24, 3) := by decide +kernel
theorem dX8_firstBroken_10 : decode cX8_firstBroken 10 = .ok (.aload_n 0, 1) := by decide +kernel
theorem dX8_firstBroken_11 : decode cX8_firstBroken 11 = .ok (.iload_n 2, 1) := by decide +kernel
theorem dX8_firstBroken_12 : decode cX8_firstBroken 12 = .ok (.iconst 1, 1) := by decide +kernel
theorem dX8_firstBroken_13 : decode cX8_firstBroken 13 = .ok (.invokevirtual 48, 3) := by decide +kernel
theorem dX8_firstBroken_16 : decode cX8_firstBroken 16 = .ok (.ifCond .ne 7, 3) := by decide +kernel
theorem dX8_firstBroken_19 : decode cX8_firstBroken 19 = .ok (.iload_n 2, 1) := by decide +kernel
theorem dX8_firstBroken_20 : decode cX8_firstBroken 20 = .ok (.goto 4, 3) := by decide +kernel
theorem dX8_firstBroken_23 : decode cX8_firstBroken 23 = .ok (.iload_n 1, 1) := by decide +kernel
theorem dX8_firstBroken_24 : decode cX8_firstBroken 24 = .ok (.istore_n 1, 1) := by decide +kernel
theorem dX8_firstBroken_25 : decode cX8_firstBroken 25 = .ok (.iinc 2 (-1), 3) := by decide +kernel
theorem dX8_firstBroken_28 : decode cX8_firstBroken 28 = .ok (.goto (-22), 3) := by decide +kernel
theorem dX8_firstBroken_31 : decode cX8_firstBroken 31 = .ok (.iload_n 1, 1) := by decide +kernel
theorem dX8_firstBroken_32 : decode cX8_firstBroken 32 = .ok (.ireturn, 1) := by decide +kernel
theorem dX8_isTooFar_0 : decode cX8_isTooFar 0 = .ok (.aload_n 0, 1) := by decide +kernel
theorem dX8_isTooFar_1 : decode cX8_isTooFar 1 = .ok (.getfield 7, 3) := by decide +kernel
theorem dX8_isTooFar_4 : decode cX8_isTooFar 4 = .ok (.iconst 3, 1) := by decide +kernel
theorem dX8_isTooFar_5 : decode cX8_isTooFar 5 = .ok (.iload_n 1, 1) := by decide +kernel
theorem dX8_isTooFar_6 : decode cX8_isTooFar 6 = .ok (.iadd, 1) := by decide +kernel
theorem dX8_isTooFar_7 : decode cX8_isTooFar 7 = .ok (.iaload, 1) := by decide +kernel
theorem dX8_isTooFar_8 : decode cX8_isTooFar 8 = .ok (.aload_n 0, 1) := by decide +kernel
theorem dX8_isTooFar_9 : decode cX8_isTooFar 9 = .ok (.aload_n 0, 1) := by decide +kernel
theorem dX8_isTooFar_10 : decode cX8_isTooFar 10 = .ok (.getfield 7, 3) := by decide +kernel
theorem dX8_isTooFar_13 : decode cX8_isTooFar 13 = .ok (.iconst 1, 1) := by decide +kernel
theorem dX8_isTooFar_14 : decode cX8_isTooFar 14 = .ok (.iaload, 1) := by decide +kernel
theorem dX8_isTooFar_15 : decode cX8_isTooFar 15 = .ok (.iconst 1, 1) := by decide +kernel
theorem dX8_isTooFar_16 : decode cX8_isTooFar 16 = .ok (.iload_n 1, 1) := by decide +kernel
theorem dX8_isTooFar_17 : decode cX8_isTooFar 17 = .ok (.iadd, 1) := by decide +kernel
theorem dX8_isTooFar_18 : decode cX8_isTooFar 18 = .ok (.invokevirtual 51, 3) := by decide +kernel
theorem dX8_isTooFar_21 : decode cX8_isTooFar 21 = .ok (.isub, 1) := by decide +kernel
theorem dX8_isTooFar_22 : decode cX8_isTooFar 22 = .ok (.istore_n 2, 1) := by decide +kernel
theorem dX8_isTooFar_23 : decode cX8_isTooFar 23 = .ok (.iload_n 2, 1) := by decide +kernel
theorem dX8_isTooFar_24 : decode cX8_isTooFar 24 = .ok (.ifCond .ge 8, 3) := by decide +kernel
theorem dX8_isTooFar_27 : decode cX8_isTooFar 27 = .ok (.iload_n 2, 1) := by decide +kernel
theorem dX8_isTooFar_28 : decode cX8_isTooFar 28 = .ok (.ineg, 1) := by decide +kernel
theorem dX8_isTooFar_29 : decode cX8_isTooFar 29 = .ok (.goto 4, 3) := by decide +kernel
theorem dX8_isTooFar_32 : decode cX8_isTooFar 32 = .ok (.iload_n 2, 1) := by decide +kernel
theorem dX8_isTooFar_33 : decode cX8_isTooFar 33 = .ok (.iconst 4, 1) := by decide +kernel
theorem dX8_isTooFar_34 : decode cX8_isTooFar 34 = .ok (.aload_n 0, 1) := by decide +kernel
theorem dX8_isTooFar_35 : decode cX8_isTooFar 35 = .ok (.getfield 7, 3) := by decide +kernel
theorem dX8_isTooFar_38 : decode cX8_isTooFar 38 = .ok (.iconst 2, 1) := by decide +kernel
theorem dX8_isTooFar_39 : decode cX8_isTooFar 39 = .ok (.iaload, 1) := by decide +kernel
theorem dX8_isTooFar_40 : decode cX8_isTooFar 40 = .ok (.isub, 1) := by decide +kernel
theorem dX8_isTooFar_41 : decode cX8_isTooFar 41 = .ok (.if_icmp .le 7, 3) := by decide +kernel
theorem dX8_isTooFar_44 : decode cX8_isTooFar 44 = .ok (.iconst 1, 1) := by decide +kernel
theorem dX8_isTooFar_45 : decode cX8_isTooFar 45 = .ok (.goto 4, 3) := by decide +kernel
theorem dX8_isTooFar_48 : decode cX8_isTooFar 48 = .ok (.iconst 0, 1) := by decide +kernel
theorem dX8_isTooFar_49 : decode cX8_isTooFar 49 = .ok (.ireturn, 1) := by decide +kernel
theorem dX8_says_0 : decode cX8_says 0 = .ok (.aload_n 0, 1) := by decide +kernel
theorem dX8_says_1 : decode cX8_says 1 = .ok (.iload_n 1, 1) := by decide +kernel
theorem dX8_says_2 : decode cX8_says 2 = .ok (.putfield 54, 3) := by decide +kernel
theorem dX8_says_5 : decode cX8_says 5 = .ok (.aload_n 0, 1) := by decide +kernel
theorem dX8_says_6 : decode cX8_says 6 = .ok (.iload_n 2, 1) := by decide +kernel
theorem dX8_says_7 : decode cX8_says 7 = .ok (.putfield 57, 3) := by decide +kernel
theorem dX8_says_10 : decode cX8_says 10 = .ok (.return_, 1) := by decide +kernel
theorem dX8_findReason_0 : decode cX8_findReason 0 = .ok (.aload_n 0, 1) := by decide +kernel
theorem dX8_findReason_1 : decode cX8_findReason 1 = .ok (.getfield 7, 3) := by decide +kernel
theorem dX8_findReason_4 : decode cX8_findReason 4 = .ok (.iconst 1, 1) := by decide +kernel
theorem dX8_findReason_5 : decode cX8_findReason 5 = .ok (.iaload, 1) := by decide +kernel
theorem dX8_findReason_6 : decode cX8_findReason 6 = .ok (.istore_n 2, 1) := by decide +kernel
theorem dX8_findReason_7 : decode cX8_findReason 7 = .ok (.aload_n 0, 1) := by decide +kernel
theorem dX8_findReason_8 : decode cX8_findReason 8 = .ok (.getfield 7, 3) := by decide +kernel
theorem dX8_findReason_11 : decode cX8_findReason 11 = .ok (.iconst 0, 1) := by decide +kernel
theorem dX8_findReason_12 : decode cX8_findReason 12 = .ok (.iaload, 1) := by decide +kernel
theorem dX8_findReason_13 : decode cX8_findReason 13 = .ok (.ifCond .ne 8, 3) := by decide +kernel
theorem dX8_findReason_16 : decode cX8_findReason 16 = .ok (.bipush (-6), 2) := by decide +kernel
theorem dX8_findReason_18 : decode cX8_findReason 18 = .ok (.goto 14, 3) := by decide +kernel
theorem dX8_findReason_21 : decode cX8_findReason 21 = .ok (.aload_n 0, 1) := by decide +kernel
theorem dX8_findReason_22 : decode cX8_findReason 22 = .ok (.iconst 0, 1) := by decide +kernel
theorem dX8_findReason_23 : decode cX8_findReason 23 = .ok (.aload_n 0, 1) := by decide +kernel
theorem dX8_findReason_24 : decode cX8_findReason 24 = .ok (.iload_n 2, 1) := by decide +kernel
theorem dX8_findReason_25 : decode cX8_findReason 25 = .ok (.iconst 1, 1) := by decide +kernel
theorem dX8_findReason_26 : decode cX8_findReason 26 = .ok (.invokevirtual 51, 3) := by decide +kernel
theorem dX8_findReason_29 : decode cX8_findReason 29 = .ok (.invokevirtual 60, 3) := by decide +kernel
theorem dX8_findReason_32 : decode cX8_findReason 32 = .ok (.istore_n 3, 1) := by decide +kernel
theorem dX8_findReason_33 : decode cX8_findReason 33 = .ok (.aload_n 0, 1) := by decide +kernel
theorem dX8_findReason_34 : decode cX8_findReason 34 = .ok (.getfield 7, 3) := by decide +kernel
theorem dX8_findReason_37 : decode cX8_findReason 37 = .ok (.iconst 0, 1) := by decide +kernel
theorem dX8_findReason_38 : decode cX8_findReason 38 = .ok (.iaload, 1) := by decide +kernel
theorem dX8_findReason_39 : decode cX8_findReason 39 = .ok (.ifCond .ne 8, 3) := by decide +kernel
theorem dX8_findReason_42 : decode cX8_findReason 42 = .ok (.bipush (-6), 2) := by decide +kernel
theorem dX8_findReason_44 : decode cX8_findReason 44 = .ok (.goto 14, 3) := by decide +kernel
theorem dX8_findReason_47 : decode cX8_findReason 47 = .ok (.aload_n 0, 1) := by decide +kernel
theorem dX8_findReason_48 : decode cX8_findReason 48 = .ok (.iconst 1, 1) := by decide +kernel
theorem dX8_findReason_49 : decode cX8_findReason 49 = .ok (.aload_n 0, 1) := by decide +kernel
theorem dX8_findReason_50 : decode cX8_findReason 50 = .ok (.iload_n 2, 1) := by decide +kernel
theorem dX8_findReason_51 : decode cX8_findReason 51 = .ok (.iconst 2, 1) := by decide +kernel
theorem dX8_findReason_52 : decode cX8_findReason 52 = .ok (.invokevirtual 51, 3) := by decide +kernel
theorem dX8_findReason_55 : decode cX8_findReason 55 = .ok (.invokevirtual 60, 3) := by decide +kernel
theorem dX8_findReason_58 : decode cX8_findReason 58 = .ok (.istore 4, 2) := by decide +kernel
theorem dX8_findReason_60 : decode cX8_findReason 60 = .ok (.iload_n 3, 1) := by decide +kernel
theorem dX8_findReason_61 : decode cX8_findReason 61 = .ok (.bipush (-6), 2) := by decide +kernel
theorem dX8_findReason_63 : decode cX8_findReason 63 = .ok (.if_icmp .ne 8, 3) := by decide +kernel
theorem dX8_findReason_66 : decode cX8_findReason 66 = .ok (.iload 4, 2) := by decide +kernel
theorem dX8_findReason_68 : decode cX8_findReason 68 = .ok (.goto 4, 3) := by decide +kernel
theorem dX8_findReason_71 : decode cX8_findReason 71 = .ok (.iload_n 3, 1) := by decide +kernel
theorem dX8_findReason_72 : decode cX8_findReason 72 = .ok (.istore 5, 2) := by decide +kernel
theorem dX8_findReason_74 : decode cX8_findReason 74 = .ok (.aload_n 0, 1) := by decide +kernel
theorem dX8_findReason_75 : decode cX8_findReason 75 = .ok (.getfield 7, 3) := by decide +kernel
theorem dX8_findReason_78 : decode cX8_findReason 78 = .ok (.iconst 0, 1) := by decide +kernel
theorem dX8_findReason_79 : decode cX8_findReason 79 = .ok (.iaload, 1) := by decide +kernel
theorem dX8_findReason_80 : decode cX8_findReason 80 = .ok (.ifCond .ne 13, 3) := by decide +kernel
theorem dX8_findReason_83 : decode cX8_findReason 83 = .ok (.aload_n 0, 1) := by decide +kernel
theorem dX8_findReason_84 : decode cX8_findReason 84 = .ok (.iconst 1, 1) := by decide +kernel
theorem dX8_findReason_85 : decode cX8_findReason 85 = .ok (.bipush (-6), 2) := by decide +kernel
theorem dX8_findReason_87 : decode cX8_findReason 87 = .ok (.invokevirtual 63, 3) := by decide +kernel
theorem dX8_findReason_90 : decode cX8_findReason 90 = .ok (.goto 137, 3) := by decide +kernel
theorem dX8_findReason_93 : decode cX8_findReason 93 = .ok (.iload_n 1, 1) := by decide +kernel
theorem dX8_findReason_94 : decode cX8_findReason 94 = .ok (.ifCond .eq 24, 3) := by decide +kernel
theorem dX8_findReason_97 : decode cX8_findReason 97 = .ok (.aload_n 0, 1) := by decide +kernel
theorem dX8_findReason_98 : decode cX8_findReason 98 = .ok (.invokevirtual 67, 3) := by decide +kernel
theorem dX8_findReason_101 : decode cX8_findReason 101 = .ok (.bipush (-6), 2) := by decide +kernel
theorem dX8_findReason_103 : decode cX8_findReason 103 = .ok (.if_icmp .eq 15, 3) := by decide +kernel
theorem dX8_findReason_106 : decode cX8_findReason 106 = .ok (.aload_n 0, 1) := by decide +kernel
theorem dX8_findReason_107 : decode cX8_findReason 107 = .ok (.iconst 2, 1) := by decide +kernel
theorem dX8_findReason_108 : decode cX8_findReason 108 = .ok (.aload_n 0, 1) := by decide +kernel
theorem dX8_findReason_109 : decode cX8_findReason 109 = .ok (.invokevirtual 67, 3) := by decide +kernel
theorem dX8_findReason_112 : decode cX8_findReason 112 = .ok (.invokevirtual 63, 3) := by decide +kernel
theorem dX8_findReason_115 : decode cX8_findReason 115 = .ok (.goto 112, 3) := by decide +kernel
theorem dX8_findReason_118 : decode cX8_findReason 118 = .ok (.iload_n 1, 1) := by decide +kernel
theorem dX8_findReason_119 : decode cX8_findReason 119 = .ok (.ifCond .eq 20, 3) := by decide +kernel
theorem dX8_findReason_122 : decode cX8_findReason 122 = .ok (.aload_n 0, 1) := by decide +kernel
theorem dX8_findReason_123 : decode cX8_findReason 123 = .ok (.iconst 0, 1) := by decide +kernel
theorem dX8_findReason_124 : decode cX8_findReason 124 = .ok (.invokevirtual 71, 3) := by decide +kernel
theorem dX8_findReason_127 : decode cX8_findReason 127 = .ok (.ifCond .eq 12, 3) := by decide +kernel
theorem dX8_findReason_130 : decode cX8_findReason 130 = .ok (.aload_n 0, 1) := by decide +kernel
theorem dX8_findReason_131 : decode cX8_findReason 131 = .ok (.iconst 3, 1) := by decide +kernel
theorem dX8_findReason_132 : decode cX8_findReason 132 = .ok (.iconst 0, 1) := by decide +kernel
theorem dX8_findReason_133 : decode cX8_findReason 133 = .ok (.invokevirtual 63, 3) := by decide +kernel
theorem dX8_findReason_136 : decode cX8_findReason 136 = .ok (.goto 91, 3) := by decide +kernel
theorem dX8_findReason_139 : decode cX8_findReason 139 = .ok (.iload_n 1, 1) := by decide +kernel
theorem dX8_findReason_140 : decode cX8_findReason 140 = .ok (.ifCond .eq 20, 3) := by decide +kernel
theorem dX8_findReason_143 : decode cX8_findReason 143 = .ok (.aload_n 0, 1) := by decide +kernel
theorem dX8_findReason_144 : decode cX8_findReason 144 = .ok (.iconst 1, 1) := by decide +kernel
theorem dX8_findReason_145 : decode cX8_findReason 145 = .ok (.invokevirtual 71, 3) := by decide +kernel
theorem dX8_findReason_148 : decode cX8_findReason 148 = .ok (.ifCond .eq 12, 3) := by decide +kernel
theorem dX8_findReason_151 : decode cX8_findReason 151 = .ok (.aload_n 0, 1) := by decide +kernel
theorem dX8_findReason_152 : decode cX8_findReason 152 = .ok (.iconst 3, 1) := by decide +kernel
theorem dX8_findReason_153 : decode cX8_findReason 153 = .ok (.iconst 1, 1) := by decide +kernel
theorem dX8_findReason_154 : decode cX8_findReason 154 = .ok (.invokevirtual 63, 3) := by decide +kernel
theorem dX8_findReason_157 : decode cX8_findReason 157 = .ok (.goto 70, 3) := by decide +kernel
theorem dX8_findReason_160 : decode cX8_findReason 160 = .ok (.iload_n 3, 1) := by decide +kernel
theorem dX8_findReason_161 : decode cX8_findReason 161 = .ok (.bipush (-6), 2) := by decide +kernel
theorem dX8_findReason_163 : decode cX8_findReason 163 = .ok (.if_icmp .eq 19, 3) := by decide +kernel
theorem dX8_findReason_166 : decode cX8_findReason 166 = .ok (.iload 4, 2) := by decide +kernel
theorem dX8_findReason_168 : decode cX8_findReason 168 = .ok (.bipush (-6), 2) := by decide +kernel
theorem dX8_findReason_170 : decode cX8_findReason 170 = .ok (.if_icmp .eq 12, 3) := by decide +kernel
theorem dX8_findReason_173 : decode cX8_findReason 173 = .ok (.aload_n 0, 1) := by decide +kernel
theorem dX8_findReason_174 : decode cX8_findReason 174 = .ok (.iconst 4, 1) := by decide +kernel
theorem dX8_findReason_175 : decode cX8_findReason 175 = .ok (.iload_n 3, 1) := by decide +kernel
theorem dX8_findReason_176 : decode cX8_findReason 176 = .ok (.invokevirtual 63, 3) := by decide +kernel
theorem dX8_findReason_179 : decode cX8_findReason 179 = .ok (.goto 48, 3) := by decide +kernel
theorem dX8_findReason_182 : decode cX8_findReason 182 = .ok (.iload 5, 2) := by decide +kernel
theorem dX8_findReason_184 : decode cX8_findReason 184 = .ok (.bipush (-6), 2) := by decide +kernel
theorem dX8_findReason_186 : decode cX8_findReason 186 = .ok (.if_icmp .ne 13, 3) := by decide +kernel
theorem dX8_findReason_189 : decode cX8_findReason 189 = .ok (.aload_n 0, 1) := by decide +kernel
theorem dX8_findReason_190 : decode cX8_findReason 190 = .ok (.iconst 5, 1) := by decide +kernel
theorem dX8_findReason_191 : decode cX8_findReason 191 = .ok (.bipush (-6), 2) := by decide +kernel
theorem dX8_findReason_193 : decode cX8_findReason 193 = .ok (.invokevirtual 63, 3) := by decide +kernel
theorem dX8_findReason_196 : decode cX8_findReason 196 = .ok (.goto 31, 3) := by decide +kernel
theorem dX8_findReason_199 : decode cX8_findReason 199 = .ok (.aload_n 0, 1) := by decide +kernel
theorem dX8_findReason_200 : decode cX8_findReason 200 = .ok (.iload 5, 2) := by decide +kernel
theorem dX8_findReason_202 : decode cX8_findReason 202 = .ok (.iconst 1, 1) := by decide +kernel
theorem dX8_findReason_203 : decode cX8_findReason 203 = .ok (.invokevirtual 44, 3) := by decide +kernel
theorem dX8_findReason_206 : decode cX8_findReason 206 = .ok (.ifCond .ne 14, 3) := by decide +kernel
theorem dX8_findReason_209 : decode cX8_findReason 209 = .ok (.aload_n 0, 1) := by decide +kernel
theorem dX8_findReason_210 : decode cX8_findReason 210 = .ok (.bipush 6, 2) := by decide +kernel
theorem dX8_findReason_212 : decode cX8_findReason 212 = .ok (.iload 5, 2) := by decide +kernel
theorem dX8_findReason_214 : decode cX8_findReason 214 = .ok (.invokevirtual 63, 3) := by decide +kernel
theorem dX8_findReason_217 : decode cX8_findReason 217 = .ok (.goto 10, 3) := by decide +kernel
theorem dX8_findReason_220 : decode cX8_findReason 220 = .ok (.aload_n 0, 1) := by decide +kernel
theorem dX8_findReason_221 : decode cX8_findReason 221 = .ok (.iconst 0, 1) := by decide +kernel
theorem dX8_findReason_222 : decode cX8_findReason 222 = .ok (.iload 5, 2) := by decide +kernel
theorem dX8_findReason_224 : decode cX8_findReason 224 = .ok (.invokevirtual 63, 3) := by decide +kernel
theorem dX8_findReason_227 : decode cX8_findReason 227 = .ok (.return_, 1) := by decide +kernel
theorem dX8_moves_0 : decode cX8_moves 0 = .ok (.aload_n 0, 1) := by decide +kernel
theorem dX8_moves_1 : decode cX8_moves 1 = .ok (.getfield 7, 3) := by decide +kernel
theorem dX8_moves_4 : decode cX8_moves 4 = .ok (.iconst 1, 1) := by decide +kernel
theorem dX8_moves_5 : decode cX8_moves 5 = .ok (.iaload, 1) := by decide +kernel
theorem dX8_moves_6 : decode cX8_moves 6 = .ok (.istore_n 1, 1) := by decide +kernel
theorem dX8_moves_7 : decode cX8_moves 7 = .ok (.aload_n 0, 1) := by decide +kernel
theorem dX8_moves_8 : decode cX8_moves 8 = .ok (.getfield 57, 3) := by decide +kernel
theorem dX8_moves_11 : decode cX8_moves 11 = .ok (.istore_n 2, 1) := by decide +kernel
theorem dX8_moves_12 : decode cX8_moves 12 = .ok (.iconst 1, 1) := by decide +kernel
theorem dX8_moves_13 : decode cX8_moves 13 = .ok (.aload_n 0, 1) := by decide +kernel
theorem dX8_moves_14 : decode cX8_moves 14 = .ok (.iload_n 2, 1) := by decide +kernel
theorem dX8_moves_15 : decode cX8_moves 15 = .ok (.iconst 2, 1) := by decide +kernel
theorem dX8_moves_16 : decode cX8_moves 16 = .ok (.invokevirtual 44, 3) := by decide +kernel
theorem dX8_moves_19 : decode cX8_moves 19 = .ok (.isub, 1) := by decide +kernel
theorem dX8_moves_20 : decode cX8_moves 20 = .ok (.istore_n 3, 1) := by decide +kernel
theorem dX8_moves_21 : decode cX8_moves 21 = .ok (.aload_n 0, 1) := by decide +kernel
theorem dX8_moves_22 : decode cX8_moves 22 = .ok (.getfield 7, 3) := by decide +kernel
theorem dX8_moves_25 : decode cX8_moves 25 = .ok (.iconst 3, 1) := by decide +kernel
theorem dX8_moves_26 : decode cX8_moves 26 = .ok (.aload_n 0, 1) := by decide +kernel
theorem dX8_moves_27 : decode cX8_moves 27 = .ok (.iload_n 1, 1) := by decide +kernel
theorem dX8_moves_28 : decode cX8_moves 28 = .ok (.iconst 1, 1) := by decide +kernel
theorem dX8_moves_29 : decode cX8_moves 29 = .ok (.invokevirtual 51, 3) := by decide +kernel
theorem dX8_moves_32 : decode cX8_moves 32 = .ok (.iastore, 1) := by decide +kernel
theorem dX8_moves_33 : decode cX8_moves 33 = .ok (.aload_n 0, 1) := by decide +kernel
theorem dX8_moves_34 : decode cX8_moves 34 = .ok (.getfield 7, 3) := by decide +kernel
theorem dX8_moves_37 : decode cX8_moves 37 = .ok (.iconst 4, 1) := by decide +kernel
theorem dX8_moves_38 : decode cX8_moves 38 = .ok (.aload_n 0, 1) := by decide +kernel
theorem dX8_moves_39 : decode cX8_moves 39 = .ok (.iload_n 1, 1) := by decide +kernel
theorem dX8_moves_40 : decode cX8_moves 40 = .ok (.iconst 2, 1) := by decide +kernel
theorem dX8_moves_41 : decode cX8_moves 41 = .ok (.invokevirtual 51, 3) := by decide +kernel
theorem dX8_moves_44 : decode cX8_moves 44 = .ok (.iastore, 1) := by decide +kernel
theorem dX8_moves_45 : decode cX8_moves 45 = .ok (.aload_n 0, 1) := by decide +kernel
theorem dX8_moves_46 : decode cX8_moves 46 = .ok (.getfield 7, 3) := by decide +kernel
theorem dX8_moves_49 : decode cX8_moves 49 = .ok (.iconst 5, 1) := by decide +kernel
theorem dX8_moves_50 : decode cX8_moves 50 = .ok (.iaload, 1) := by decide +kernel
theorem dX8_moves_51 : decode cX8_moves 51 = .ok (.aload_n 0, 1) := by decide +kernel
theorem dX8_moves_52 : decode cX8_moves 52 = .ok (.iload_n 1, 1) := by decide +kernel
theorem dX8_moves_53 : decode cX8_moves 53 = .ok (.iconst 0, 1) := by decide +kernel
theorem dX8_moves_54 : decode cX8_moves 54 = .ok (.invokevirtual 51, 3) := by decide +kernel
theorem dX8_moves_57 : decode cX8_moves 57 = .ok (.ixor, 1) := by decide +kernel
theorem dX8_moves_58 : decode cX8_moves 58 = .ok (.istore 4, 2) := by decide +kernel
theorem dX8_moves_60 : decode cX8_moves 60 = .ok (.iconst 0, 1) := by decide +kernel
theorem dX8_moves_61 : decode cX8_moves 61 = .ok (.istore 5, 2) := by decide +kernel
theorem dX8_moves_63 : decode cX8_moves 63 = .ok (.iload 5, 2) := by decide +kernel
theorem dX8_moves_65 : decode cX8_moves 65 = .ok (.bipush 12, 2) := by decide +kernel
theorem dX8_moves_67 : decode cX8_moves 67 = .ok (.if_icmp .ge 36, 3) := by decide +kernel
theorem dX8_moves_70 : decode cX8_moves 70 = .ok (.aload_n 0, 1) := by decide +kernel
theorem dX8_moves_71 : decode cX8_moves 71 = .ok (.iload 5, 2) := by decide +kernel
theorem dX8_moves_73 : decode cX8_moves 73 = .ok (.iconst 1, 1) := by decide +kernel
theorem dX8_moves_74 : decode cX8_moves 74 = .ok (.aload_n 0, 1) := by decide +kernel
theorem dX8_moves_75 : decode cX8_moves 75 = .ok (.iload 5, 2) := by decide +kernel
theorem dX8_moves_77 : decode cX8_moves 77 = .ok (.iconst 1, 1) := by decide +kernel
theorem dX8_moves_78 : decode cX8_moves 78 = .ok (.invokevirtual 48, 3) := by decide +kernel
theorem dX8_moves_81 : decode cX8_moves 81 = .ok (.iload 4, 2) := by decide +kernel
theorem dX8_moves_83 : decode cX8_moves 83 = .ok (.aload_n 0, 1) := by decide +kernel
theorem dX8_moves_84 : decode cX8_moves 84 = .ok (.iload 5, 2) := by decide +kernel
theorem dX8_moves_86 : decode cX8_moves 86 = .ok (.iconst 0, 1) := by decide +kernel
theorem dX8_moves_87 : decode cX8_moves 87 = .ok (.invokevirtual 48, 3) := by decide +kernel
theorem dX8_moves_90 : decode cX8_moves 90 = .ok (.ishr, 1) := by decide +kernel
theorem dX8_moves_91 : decode cX8_moves 91 = .ok (.iconst 1, 1) := by decide +kernel
theorem dX8_moves_92 : decode cX8_moves 92 = .ok (.iand, 1) := by decide +kernel
theorem dX8_moves_93 : decode cX8_moves 93 = .ok (.isub, 1) := by decide +kernel
theorem dX8_moves_94 : decode cX8_moves 94 = .ok (.invokevirtual 26, 3) := by decide +kernel
theorem dX8_moves_97 : decode cX8_moves 97 = .ok (.iinc 5 1, 3) := by decide +kernel
theorem dX8_moves_100 : decode cX8_moves 100 = .ok (.goto (-37), 3) := by decide +kernel
theorem dX8_moves_103 : decode cX8_moves 103 = .ok (.aload_n 0, 1) := by decide +kernel
theorem dX8_moves_104 : decode cX8_moves 104 = .ok (.getfield 7, 3) := by decide +kernel
theorem dX8_moves_107 : decode cX8_moves 107 = .ok (.iconst 5, 1) := by decide +kernel
theorem dX8_moves_108 : decode cX8_moves 108 = .ok (.aload_n 0, 1) := by decide +kernel
theorem dX8_moves_109 : decode cX8_moves 109 = .ok (.iload_n 1, 1) := by decide +kernel
theorem dX8_moves_110 : decode cX8_moves 110 = .ok (.iconst 0, 1) := by decide +kernel
theorem dX8_moves_111 : decode cX8_moves 111 = .ok (.invokevirtual 51, 3) := by decide +kernel
theorem dX8_moves_114 : decode cX8_moves 114 = .ok (.iastore, 1) := by decide +kernel
theorem dX8_moves_115 : decode cX8_moves 115 = .ok (.aload_n 0, 1) := by decide +kernel
theorem dX8_moves_116 : decode cX8_moves 116 = .ok (.iload_n 2, 1) := by decide +kernel
theorem dX8_moves_117 : decode cX8_moves 117 = .ok (.iconst 2, 1) := by decide +kernel
theorem dX8_moves_118 : decode cX8_moves 118 = .ok (.iload_n 3, 1) := by decide +kernel
theorem dX8_moves_119 : decode cX8_moves 119 = .ok (.invokevirtual 22, 3) := by decide +kernel
theorem dX8_moves_122 : decode cX8_moves 122 = .ok (.aload_n 0, 1) := by decide +kernel
theorem dX8_moves_123 : decode cX8_moves 123 = .ok (.iload_n 2, 1) := by decide +kernel
theorem dX8_moves_124 : decode cX8_moves 124 = .ok (.iconst 3, 1) := by decide +kernel
theorem dX8_moves_125 : decode cX8_moves 125 = .ok (.aload_n 0, 1) := by decide +kernel
theorem dX8_moves_126 : decode cX8_moves 126 = .ok (.getfield 7, 3) := by decide +kernel
theorem dX8_moves_129 : decode cX8_moves 129 = .ok (.iconst 3, 1) := by decide +kernel
theorem dX8_moves_130 : decode cX8_moves 130 = .ok (.iload_n 3, 1) := by decide +kernel
theorem dX8_moves_131 : decode cX8_moves 131 = .ok (.iadd, 1) := by decide +kernel
theorem dX8_moves_132 : decode cX8_moves 132 = .ok (.iaload, 1) := by decide +kernel
theorem dX8_moves_133 : decode cX8_moves 133 = .ok (.invokevirtual 22, 3) := by decide +kernel
theorem dX8_moves_136 : decode cX8_moves 136 = .ok (.aload_n 0, 1) := by decide +kernel
theorem dX8_moves_137 : decode cX8_moves 137 = .ok (.iload_n 2, 1) := by decide +kernel
theorem dX8_moves_138 : decode cX8_moves 138 = .ok (.iconst 1, 1) := by decide +kernel
theorem dX8_moves_139 : decode cX8_moves 139 = .ok (.aload_n 0, 1) := by decide +kernel
theorem dX8_moves_140 : decode cX8_moves 140 = .ok (.iload_n 2, 1) := by decide +kernel
theorem dX8_moves_141 : decode cX8_moves 141 = .ok (.iconst 1, 1) := by decide +kernel
theorem dX8_moves_142 : decode cX8_moves 142 = .ok (.invokevirtual 44, 3) := by decide +kernel
theorem dX8_moves_145 : decode cX8_moves 145 = .ok (.iconst 1, 1) := by decide +kernel
theorem dX8_moves_146 : decode cX8_moves 146 = .ok (.isub, 1) := by decide +kernel
theorem dX8_moves_147 : decode cX8_moves 147 = .ok (.invokevirtual 22, 3) := by decide +kernel
theorem dX8_moves_150 : decode cX8_moves 150 = .ok (.aload_n 0, 1) := by decide +kernel
theorem dX8_moves_151 : decode cX8_moves 151 = .ok (.getfield 7, 3) := by decide +kernel
theorem dX8_moves_154 : decode cX8_moves 154 = .ok (.iconst 1, 1) := by decide +kernel
theorem dX8_moves_155 : decode cX8_moves 155 = .ok (.iload_n 1, 1) := by decide +kernel
theorem dX8_moves_156 : decode cX8_moves 156 = .ok (.iconst 1, 1) := by decide +kernel
theorem dX8_moves_157 : decode cX8_moves 157 = .ok (.iadd, 1) := by decide +kernel
theorem dX8_moves_158 : decode cX8_moves 158 = .ok (.aload_n 0, 1) := by decide +kernel
theorem dX8_moves_159 : decode cX8_moves 159 = .ok (.getfield 7, 3) := by decide +kernel
theorem dX8_moves_162 : decode cX8_moves 162 = .ok (.iconst 0, 1) := by decide +kernel
theorem dX8_moves_163 : decode cX8_moves 163 = .ok (.iaload, 1) := by decide +kernel
theorem dX8_moves_164 : decode cX8_moves 164 = .ok (.if_icmp .ne 7, 3) := by decide +kernel
theorem dX8_moves_167 : decode cX8_moves 167 = .ok (.iconst 0, 1) := by decide +kernel
theorem dX8_moves_168 : decode cX8_moves 168 = .ok (.goto 6, 3) := by decide +kernel
theorem dX8_moves_171 : decode cX8_moves 171 = .ok (.iload_n 1, 1) := by decide +kernel
theorem dX8_moves_172 : decode cX8_moves 172 = .ok (.iconst 1, 1) := by decide +kernel
theorem dX8_moves_173 : decode cX8_moves 173 = .ok (.iadd, 1) := by decide +kernel
theorem dX8_moves_174 : decode cX8_moves 174 = .ok (.iastore, 1) := by decide +kernel
theorem dX8_moves_175 : decode cX8_moves 175 = .ok (.return_, 1) := by decide +kernel
theorem dX8_addsRow_0 : decode cX8_addsRow 0 = .ok (.sipush 179, 3) := by decide +kernel
theorem dX8_addsRow_3 : decode cX8_addsRow 3 = .ok (.istore_n 1, 1) := by decide +kernel
theorem dX8_addsRow_4 : decode cX8_addsRow 4 = .ok (.iload_n 1, 1) := by decide +kernel
theorem dX8_addsRow_5 : decode cX8_addsRow 5 = .ok (.bipush 9, 2) := by decide +kernel
theorem dX8_addsRow_7 : decode cX8_addsRow 7 = .ok (.if_icmp .lt 30, 3) := by decide +kernel
theorem dX8_addsRow_10 : decode cX8_addsRow 10 = .ok (.aload_n 0, 1) := by decide +kernel
theorem dX8_addsRow_11 : decode cX8_addsRow 11 = .ok (.getfield 7, 3) := by decide +kernel
theorem dX8_addsRow_14 : decode cX8_addsRow 14 = .ok (.bipush 104, 2) := by decide +kernel
theorem dX8_addsRow_16 : decode cX8_addsRow 16 = .ok (.iload_n 1, 1) := by decide +kernel
theorem dX8_addsRow_17 : decode cX8_addsRow 17 = .ok (.iadd, 1) := by decide +kernel
theorem dX8_addsRow_18 : decode cX8_addsRow 18 = .ok (.aload_n 0, 1) := by decide +kernel
theorem dX8_addsRow_19 : decode cX8_addsRow 19 = .ok (.getfield 7, 3) := by decide +kernel
theorem dX8_addsRow_22 : decode cX8_addsRow 22 = .ok (.bipush 104, 2) := by decide +kernel
theorem dX8_addsRow_24 : decode cX8_addsRow 24 = .ok (.iload_n 1, 1) := by decide +kernel
theorem dX8_addsRow_25 : decode cX8_addsRow 25 = .ok (.iadd, 1) := by decide +kernel
theorem dX8_addsRow_26 : decode cX8_addsRow 26 = .ok (.bipush 9, 2) := by decide +kernel
theorem dX8_addsRow_28 : decode cX8_addsRow 28 = .ok (.isub, 1) := by decide +kernel
theorem dX8_addsRow_29 : decode cX8_addsRow 29 = .ok (.iaload, 1) := by decide +kernel
theorem dX8_addsRow_30 : decode cX8_addsRow 30 = .ok (.iastore, 1) := by decide +kernel
theorem dX8_addsRow_31 : decode cX8_addsRow 31 = .ok (.iinc 1 (-1), 3) := by decide +kernel
theorem dX8_addsRow_34 : decode cX8_addsRow 34 = .ok (.goto (-30), 3) := by decide +kernel
theorem dX8_addsRow_37 : decode cX8_addsRow 37 = .ok (.aload_n 0, 1) := by decide +kernel
theorem dX8_addsRow_38 : decode cX8_addsRow 38 = .ok (.getfield 57, 3) := by decide +kernel
theorem dX8_addsRow_41 : decode cX8_addsRow 41 = .ok (.istore_n 1, 1) := by decide +kernel
theorem dX8_addsRow_42 : decode cX8_addsRow 42 = .ok (.aload_n 0, 1) := by decide +kernel
theorem dX8_addsRow_43 : decode cX8_addsRow 43 = .ok (.getfield 7, 3) := by decide +kernel
theorem dX8_addsRow_46 : decode cX8_addsRow 46 = .ok (.bipush 104, 2) := by decide +kernel
theorem dX8_addsRow_48 : decode cX8_addsRow 48 = .ok (.aload_n 0, 1) := by decide +kernel
theorem dX8_addsRow_49 : decode cX8_addsRow 49 = .ok (.iload_n 1, 1) := by decide +kernel
theorem dX8_addsRow_50 : decode cX8_addsRow 50 = .ok (.iconst 0, 1) := by decide +kernel
theorem dX8_addsRow_51 : decode cX8_addsRow 51 = .ok (.invokevirtual 44, 3) := by decide +kernel
theorem dX8_addsRow_54 : decode cX8_addsRow 54 = .ok (.iastore, 1) := by decide +kernel
theorem dX8_addsRow_55 : decode cX8_addsRow 55 = .ok (.aload_n 0, 1) := by decide +kernel
theorem dX8_addsRow_56 : decode cX8_addsRow 56 = .ok (.getfield 7, 3) := by decide +kernel
theorem dX8_addsRow_59 : decode cX8_addsRow 59 = .ok (.bipush 105, 2) := by decide +kernel
theorem dX8_addsRow_61 : decode cX8_addsRow 61 = .ok (.aload_n 0, 1) := by decide +kernel
theorem dX8_addsRow_62 : decode cX8_addsRow 62 = .ok (.aload_n 0, 1) := by decide +kernel
theorem dX8_addsRow_63 : decode cX8_addsRow 63 = .ok (.aload_n 0, 1) := by decide +kernel
theorem dX8_addsRow_64 : decode cX8_addsRow 64 = .ok (.getfield 7, 3) := by decide +kernel
theorem dX8_addsRow_67 : decode cX8_addsRow 67 = .ok (.iconst 1, 1) := by decide +kernel
theorem dX8_addsRow_68 : decode cX8_addsRow 68 = .ok (.iaload, 1) := by decide +kernel
theorem dX8_addsRow_69 : decode cX8_addsRow 69 = .ok (.iconst 0, 1) := by decide +kernel
theorem dX8_addsRow_70 : decode cX8_addsRow 70 = .ok (.invokevirtual 51, 3) := by decide +kernel
theorem dX8_addsRow_73 : decode cX8_addsRow 73 = .ok (.invokevirtual 75, 3) := by decide +kernel
theorem dX8_addsRow_76 : decode cX8_addsRow 76 = .ok (.iastore, 1) := by decide +kernel
theorem dX8_addsRow_77 : decode cX8_addsRow 77 = .ok (.aload_n 0, 1) := by decide +kernel
theorem dX8_addsRow_78 : decode cX8_addsRow 78 = .ok (.getfield 7, 3) := by decide +kernel
theorem dX8_addsRow_81 : decode cX8_addsRow 81 = .ok (.bipush 106, 2) := by decide +kernel
theorem dX8_addsRow_83 : decode cX8_addsRow 83 = .ok (.aload_n 0, 1) := by decide +kernel
theorem dX8_addsRow_84 : decode cX8_addsRow 84 = .ok (.getfield 7, 3) := by decide +kernel
theorem dX8_addsRow_87 : decode cX8_addsRow 87 = .ok (.iconst 1, 1) := by decide +kernel
theorem dX8_addsRow_88 : decode cX8_addsRow 88 = .ok (.iaload, 1) := by decide +kernel
theorem dX8_addsRow_89 : decode cX8_addsRow 89 = .ok (.iastore, 1) := by decide +kernel
theorem dX8_addsRow_90 : decode cX8_addsRow 90 = .ok (.aload_n 0, 1) := by decide +kernel
theorem dX8_addsRow_91 : decode cX8_addsRow 91 = .ok (.getfield 7, 3) := by decide +kernel
theorem dX8_addsRow_94 : decode cX8_addsRow 94 = .ok (.bipush 107, 2) := by decide +kernel
theorem dX8_addsRow_96 : decode cX8_addsRow 96 = .ok (.aload_n 0, 1) := by decide +kernel
theorem dX8_addsRow_97 : decode cX8_addsRow 97 = .ok (.getfield 7, 3) := by decide +kernel
theorem dX8_addsRow_100 : decode cX8_addsRow 100 = .ok (.iconst 3, 1) := by decide +kernel
theorem dX8_addsRow_101 : decode cX8_addsRow 101 = .ok (.iaload, 1) := by decide +kernel
theorem dX8_addsRow_102 : decode cX8_addsRow 102 = .ok (.iastore, 1) := by decide +kernel
theorem dX8_addsRow_103 : decode cX8_addsRow 103 = .ok (.aload_n 0, 1) := by decide +kernel
theorem dX8_addsRow_104 : decode cX8_addsRow 104 = .ok (.getfield 7, 3) := by decide +kernel
theorem dX8_addsRow_107 : decode cX8_addsRow 107 = .ok (.bipush 108, 2) := by decide +kernel
theorem dX8_addsRow_109 : decode cX8_addsRow 109 = .ok (.aload_n 0, 1) := by decide +kernel
theorem dX8_addsRow_110 : decode cX8_addsRow 110 = .ok (.getfield 7, 3) := by decide +kernel
theorem dX8_addsRow_113 : decode cX8_addsRow 113 = .ok (.iconst 4, 1) := by decide +kernel
theorem dX8_addsRow_114 : decode cX8_addsRow 114 = .ok (.iaload, 1) := by decide +kernel
theorem dX8_addsRow_115 : decode cX8_addsRow 115 = .ok (.iastore, 1) := by decide +kernel
theorem dX8_addsRow_116 : decode cX8_addsRow 116 = .ok (.aload_n 0, 1) := by decide +kernel
theorem dX8_addsRow_117 : decode cX8_addsRow 117 = .ok (.getfield 7, 3) := by decide +kernel
theorem dX8_addsRow_120 : decode cX8_addsRow 120 = .ok (.bipush 109, 2) := by decide +kernel
theorem dX8_addsRow_122 : decode cX8_addsRow 122 = .ok (.aload_n 0, 1) := by decide +kernel
theorem dX8_addsRow_123 : decode cX8_addsRow 123 = .ok (.getfield 7, 3) := by decide +kernel
theorem dX8_addsRow_126 : decode cX8_addsRow 126 = .ok (.iconst 5, 1) := by decide +kernel
theorem dX8_addsRow_127 : decode cX8_addsRow 127 = .ok (.iaload, 1) := by decide +kernel
theorem dX8_addsRow_128 : decode cX8_addsRow 128 = .ok (.iastore, 1) := by decide +kernel
theorem dX8_addsRow_129 : decode cX8_addsRow 129 = .ok (.aload_n 0, 1) := by decide +kernel
theorem dX8_addsRow_130 : decode cX8_addsRow 130 = .ok (.getfield 7, 3) := by decide +kernel
theorem dX8_addsRow_133 : decode cX8_addsRow 133 = .ok (.bipush 110, 2) := by decide +kernel
theorem dX8_addsRow_135 : decode cX8_addsRow 135 = .ok (.iload_n 1, 1) := by decide +kernel
theorem dX8_addsRow_136 : decode cX8_addsRow 136 = .ok (.iastore, 1) := by decide +kernel
theorem dX8_addsRow_137 : decode cX8_addsRow 137 = .ok (.aload_n 0, 1) := by decide +kernel
theorem dX8_addsRow_138 : decode cX8_addsRow 138 = .ok (.getfield 7, 3) := by decide +kernel
theorem dX8_addsRow_141 : decode cX8_addsRow 141 = .ok (.bipush 111, 2) := by decide +kernel
theorem dX8_addsRow_143 : decode cX8_addsRow 143 = .ok (.aload_n 0, 1) := by decide +kernel
theorem dX8_addsRow_144 : decode cX8_addsRow 144 = .ok (.iload_n 1, 1) := by decide +kernel
theorem dX8_addsRow_145 : decode cX8_addsRow 145 = .ok (.iconst 2, 1) := by decide +kernel
theorem dX8_addsRow_146 : decode cX8_addsRow 146 = .ok (.invokevirtual 44, 3) := by decide +kernel
theorem dX8_addsRow_149 : decode cX8_addsRow 149 = .ok (.iastore, 1) := by decide +kernel
theorem dX8_addsRow_150 : decode cX8_addsRow 150 = .ok (.aload_n 0, 1) := by decide +kernel
theorem dX8_addsRow_151 : decode cX8_addsRow 151 = .ok (.getfield 7, 3) := by decide +kernel
theorem dX8_addsRow_154 : decode cX8_addsRow 154 = .ok (.bipush 112, 2) := by decide +kernel
theorem dX8_addsRow_156 : decode cX8_addsRow 156 = .ok (.aload_n 0, 1) := by decide +kernel
theorem dX8_addsRow_157 : decode cX8_addsRow 157 = .ok (.iload_n 1, 1) := by decide +kernel
theorem dX8_addsRow_158 : decode cX8_addsRow 158 = .ok (.iconst 3, 1) := by decide +kernel
theorem dX8_addsRow_159 : decode cX8_addsRow 159 = .ok (.invokevirtual 44, 3) := by decide +kernel
theorem dX8_addsRow_162 : decode cX8_addsRow 162 = .ok (.iastore, 1) := by decide +kernel
theorem dX8_addsRow_163 : decode cX8_addsRow 163 = .ok (.aload_n 0, 1) := by decide +kernel
theorem dX8_addsRow_164 : decode cX8_addsRow 164 = .ok (.getfield 7, 3) := by decide +kernel
theorem dX8_addsRow_167 : decode cX8_addsRow 167 = .ok (.bipush 7, 2) := by decide +kernel
theorem dX8_addsRow_169 : decode cX8_addsRow 169 = .ok (.dup2, 1) := by decide +kernel
theorem dX8_addsRow_170 : decode cX8_addsRow 170 = .ok (.iaload, 1) := by decide +kernel
theorem dX8_addsRow_171 : decode cX8_addsRow 171 = .ok (.aload_n 0, 1) := by decide +kernel
theorem dX8_addsRow_172 : decode cX8_addsRow 172 = .ok (.getfield 7, 3) := by decide +kernel
theorem dX8_addsRow_175 : decode cX8_addsRow 175 = .ok (.bipush 7, 2) := by decide +kernel
theorem dX8_addsRow_177 : decode cX8_addsRow 177 = .ok (.iaload, 1) := by decide +kernel
theorem dX8_addsRow_178 : decode cX8_addsRow 178 = .ok (.bipush 20, 2) := by decide +kernel
theorem dX8_addsRow_180 : decode cX8_addsRow 180 = .ok (.if_icmp .ge 7, 3) := by decide +kernel
theorem dX8_addsRow_183 : decode cX8_addsRow 183 = .ok (.iconst 1, 1) := by decide +kernel
theorem dX8_addsRow_184 : decode cX8_addsRow 184 = .ok (.goto 4, 3) := by decide +kernel
theorem dX8_addsRow_187 : decode cX8_addsRow 187 = .ok (.iconst 0, 1) := by decide +kernel
theorem dX8_addsRow_188 : decode cX8_addsRow 188 = .ok (.iadd, 1) := by decide +kernel
theorem dX8_addsRow_189 : decode cX8_addsRow 189 = .ok (.iastore, 1) := by decide +kernel
theorem dX8_addsRow_190 : decode cX8_addsRow 190 = .ok (.aload_n 0, 1) := by decide +kernel
theorem dX8_addsRow_191 : decode cX8_addsRow 191 = .ok (.getfield 7, 3) := by decide +kernel
theorem dX8_addsRow_194 : decode cX8_addsRow 194 = .ok (.bipush 8, 2) := by decide +kernel
theorem dX8_addsRow_196 : decode cX8_addsRow 196 = .ok (.dup2, 1) := by decide +kernel
theorem dX8_addsRow_197 : decode cX8_addsRow 197 = .ok (.iaload, 1) := by decide +kernel
theorem dX8_addsRow_198 : decode cX8_addsRow 198 = .ok (.aload_n 0, 1) := by decide +kernel
theorem dX8_addsRow_199 : decode cX8_addsRow 199 = .ok (.getfield 7, 3) := by decide +kernel
theorem dX8_addsRow_202 : decode cX8_addsRow 202 = .ok (.bipush 8, 2) := by decide +kernel
theorem dX8_addsRow_204 : decode cX8_addsRow 204 = .ok (.iaload, 1) := by decide +kernel
theorem dX8_addsRow_205 : decode cX8_addsRow 205 = .ok (.bipush 20, 2) := by decide +kernel
theorem dX8_addsRow_207 : decode cX8_addsRow 207 = .ok (.if_icmp .ge 7, 3) := by decide +kernel
theorem dX8_addsRow_210 : decode cX8_addsRow 210 = .ok (.iconst 1, 1) := by decide +kernel
theorem dX8_addsRow_211 : decode cX8_addsRow 211 = .ok (.goto 4, 3) := by decide +kernel
theorem dX8_addsRow_214 : decode cX8_addsRow 214 = .ok (.iconst 0, 1) := by decide +kernel
theorem dX8_addsRow_215 : decode cX8_addsRow 215 = .ok (.iadd, 1) := by decide +kernel
theorem dX8_addsRow_216 : decode cX8_addsRow 216 = .ok (.iastore, 1) := by decide +kernel
theorem dX8_addsRow_217 : decode cX8_addsRow 217 = .ok (.aload_n 0, 1) := by decide +kernel
theorem dX8_addsRow_218 : decode cX8_addsRow 218 = .ok (.getfield 7, 3) := by decide +kernel
theorem dX8_addsRow_221 : decode cX8_addsRow 221 = .ok (.bipush 6, 2) := by decide +kernel
theorem dX8_addsRow_223 : decode cX8_addsRow 223 = .ok (.dup2, 1) := by decide +kernel
theorem dX8_addsRow_224 : decode cX8_addsRow 224 = .ok (.iaload, 1) := by decide +kernel
theorem dX8_addsRow_225 : decode cX8_addsRow 225 = .ok (.iconst 1, 1) := by decide +kernel
theorem dX8_addsRow_226 : decode cX8_addsRow 226 = .ok (.iadd, 1) := by decide +kernel
theorem dX8_addsRow_227 : decode cX8_addsRow 227 = .ok (.iastore, 1) := by decide +kernel
theorem dX8_addsRow_228 : decode cX8_addsRow 228 = .ok (.return_, 1) := by decide +kernel
theorem dX8_weave_0 : decode cX8_weave 0 = .ok (.iload_n 1, 1) := by decide +kernel
theorem dX8_weave_1 : decode cX8_weave 1 = .ok (.iconst 1, 1) := by decide +kernel
theorem dX8_weave_2 : decode cX8_weave 2 = .ok (.bipush 99, 2) := by decide +kernel
theorem dX8_weave_4 : decode cX8_weave 4 = .ok (.invokestatic 40, 3) := by decide +kernel
theorem dX8_weave_7 : decode cX8_weave 7 = .ok (.ifCond .ne 6, 3) := by decide +kernel
theorem dX8_weave_10 : decode cX8_weave 10 = .ok (.bipush (-2), 2) := by decide +kernel
theorem dX8_weave_12 : decode cX8_weave 12 = .ok (.ireturn, 1) := by decide +kernel
theorem dX8_weave_13 : decode cX8_weave 13 = .ok (.aload_n 0, 1) := by decide +kernel
theorem dX8_weave_14 : decode cX8_weave 14 = .ok (.invokevirtual 37, 3) := by decide +kernel
theorem dX8_weave_17 : decode cX8_weave 17 = .ok (.iconst 0, 1) := by decide +kernel
theorem dX8_weave_18 : decode cX8_weave 18 = .ok (.istore_n 2, 1) := by decide +kernel
theorem dX8_weave_19 : decode cX8_weave 19 = .ok (.aload_n 0, 1) := by decide +kernel
theorem dX8_weave_20 : decode cX8_weave 20 = .ok (.iconst 1, 1) := by decide +kernel
theorem dX8_weave_21 : decode cX8_weave 21 = .ok (.invokevirtual 79, 3) := by decide +kernel
theorem dX8_weave_24 : decode cX8_weave 24 = .ok (.iload_n 2, 1) := by decide +kernel
theorem dX8_weave_25 : decode cX8_weave 25 = .ok (.iload_n 1, 1) := by decide +kernel
theorem dX8_weave_26 : decode cX8_weave 26 = .ok (.if_icmp .ge 29, 3) := by decide +kernel
theorem dX8_weave_29 : decode cX8_weave 29 = .ok (.aload_n 0, 1) := by decide +kernel
theorem dX8_weave_30 : decode cX8_weave 30 = .ok (.getfield 54, 3) := by decide +kernel
theorem dX8_weave_33 : decode cX8_weave 33 = .ok (.ifCond .ne 22, 3) := by decide +kernel
theorem dX8_weave_36 : decode cX8_weave 36 = .ok (.aload_n 0, 1) := by decide +kernel
theorem dX8_weave_37 : decode cX8_weave 37 = .ok (.invokevirtual 83, 3) := by decide +kernel
theorem dX8_weave_40 : decode cX8_weave 40 = .ok (.aload_n 0, 1) := by decide +kernel
theorem dX8_weave_41 : decode cX8_weave 41 = .ok (.invokevirtual 86, 3) := by decide +kernel
theorem dX8_weave_44 : decode cX8_weave 44 = .ok (.iinc 2 1, 3) := by decide +kernel
theorem dX8_weave_47 : decode cX8_weave 47 = .ok (.aload_n 0, 1) := by decide +kernel
theorem dX8_weave_48 : decode cX8_weave 48 = .ok (.iconst 1, 1) := by decide +kernel
theorem dX8_weave_49 : decode cX8_weave 49 = .ok (.invokevirtual 79, 3) := by decide +kernel
theorem dX8_weave_52 : decode cX8_weave 52 = .ok (.goto (-28), 3) := by decide +kernel
theorem dX8_weave_55 : decode cX8_weave 55 = .ok (.iload_n 2, 1) := by decide +kernel
theorem dX8_weave_56 : decode cX8_weave 56 = .ok (.iload_n 1, 1) := by decide +kernel
theorem dX8_weave_57 : decode cX8_weave 57 = .ok (.if_icmp .ge 36, 3) := by decide +kernel
theorem dX8_weave_60 : decode cX8_weave 60 = .ok (.aload_n 0, 1) := by decide +kernel
theorem dX8_weave_61 : decode cX8_weave 61 = .ok (.getfield 7, 3) := by decide +kernel
theorem dX8_weave_64 : decode cX8_weave 64 = .ok (.bipush 9, 2) := by decide +kernel
theorem dX8_weave_66 : decode cX8_weave 66 = .ok (.aload_n 0, 1) := by decide +kernel
theorem dX8_weave_67 : decode cX8_weave 67 = .ok (.getfield 54, 3) := by decide +kernel
theorem dX8_weave_70 : decode cX8_weave 70 = .ok (.iastore, 1) := by decide +kernel
theorem dX8_weave_71 : decode cX8_weave 71 = .ok (.aload_n 0, 1) := by decide +kernel
theorem dX8_weave_72 : decode cX8_weave 72 = .ok (.getfield 7, 3) := by decide +kernel
theorem dX8_weave_75 : decode cX8_weave 75 = .ok (.bipush 10, 2) := by decide +kernel
theorem dX8_weave_77 : decode cX8_weave 77 = .ok (.aload_n 0, 1) := by decide +kernel
theorem dX8_weave_78 : decode cX8_weave 78 = .ok (.getfield 57, 3) := by decide +kernel
theorem dX8_weave_81 : decode cX8_weave 81 = .ok (.iastore, 1) := by decide +kernel
theorem dX8_weave_82 : decode cX8_weave 82 = .ok (.aload_n 0, 1) := by decide +kernel
theorem dX8_weave_83 : decode cX8_weave 83 = .ok (.getfield 7, 3) := by decide +kernel
theorem dX8_weave_86 : decode cX8_weave 86 = .ok (.bipush 11, 2) := by decide +kernel
theorem dX8_weave_88 : decode cX8_weave 88 = .ok (.dup2, 1) := by decide +kernel
theorem dX8_weave_89 : decode cX8_weave 89 = .ok (.iaload, 1) := by decide +kernel
theorem dX8_weave_90 : decode cX8_weave 90 = .ok (.iconst 1, 1) := by decide +kernel
theorem dX8_weave_91 : decode cX8_weave 91 = .ok (.iadd, 1) := by decide +kernel
theorem dX8_weave_92 : decode cX8_weave 92 = .ok (.iastore, 1) := by decide +kernel
theorem dX8_weave_93 : decode cX8_weave 93 = .ok (.iload_n 2, 1) := by decide +kernel
theorem dX8_weave_94 : decode cX8_weave 94 = .ok (.ireturn, 1) := by decide +kernel
theorem dX8_takeBack_0 : decode cX8_takeBack 0 = .ok (.aload_n 0, 1) := by decide +kernel
theorem dX8_takeBack_1 : decode cX8_takeBack 1 = .ok (.getfield 7, 3) := by decide +kernel
theorem dX8_takeBack_4 : decode cX8_takeBack 4 = .ok (.bipush 8, 2) := by decide +kernel
theorem dX8_takeBack_6 : decode cX8_takeBack 6 = .ok (.iaload, 1) := by decide +kernel
theorem dX8_takeBack_7 : decode cX8_takeBack 7 = .ok (.ifCond .ne 6, 3) := by decide +kernel
theorem dX8_takeBack_10 : decode cX8_takeBack 10 = .ok (.bipush (-3), 2) := by decide +kernel
theorem dX8_takeBack_12 : decode cX8_takeBack 12 = .ok (.ireturn, 1) := by decide +kernel
theorem dX8_takeBack_13 : decode cX8_takeBack 13 = .ok (.aload_n 0, 1) := by decide +kernel
theorem dX8_takeBack_14 : decode cX8_takeBack 14 = .ok (.invokevirtual 37, 3) := by decide +kernel
theorem dX8_takeBack_17 : decode cX8_takeBack 17 = .ok (.aload_n 0, 1) := by decide +kernel
theorem dX8_takeBack_18 : decode cX8_takeBack 18 = .ok (.iconst 0, 1) := by decide +kernel
theorem dX8_takeBack_19 : decode cX8_takeBack 19 = .ok (.bipush 6, 2) := by decide +kernel
theorem dX8_takeBack_21 : decode cX8_takeBack 21 = .ok (.invokevirtual 89, 3) := by decide +kernel
theorem dX8_takeBack_24 : decode cX8_takeBack 24 = .ok (.istore_n 1, 1) := by decide +kernel
theorem dX8_takeBack_25 : decode cX8_takeBack 25 = .ok (.aload_n 0, 1) := by decide +kernel
theorem dX8_takeBack_26 : decode cX8_takeBack 26 = .ok (.getfield 7, 3) := by decide +kernel
theorem dX8_takeBack_29 : decode cX8_takeBack 29 = .ok (.iconst 1, 1) := by decide +kernel
theorem dX8_takeBack_30 : decode cX8_takeBack 30 = .ok (.aload_n 0, 1) := by decide +kernel
theorem dX8_takeBack_31 : decode cX8_takeBack 31 = .ok (.iconst 0, 1) := by decide +kernel
theorem dX8_takeBack_32 : decode cX8_takeBack 32 = .ok (.iconst 2, 1) := by decide +kernel
theorem dX8_takeBack_33 : decode cX8_takeBack 33 = .ok (.invokevirtual 89, 3) := by decide +kernel
theorem dX8_takeBack_36 : decode cX8_takeBack 36 = .ok (.iastore, 1) := by decide +kernel
theorem dX8_takeBack_37 : decode cX8_takeBack 37 = .ok (.aload_n 0, 1) := by decide +kernel
theorem dX8_takeBack_38 : decode cX8_takeBack 38 = .ok (.getfield 7, 3) := by decide +kernel
theorem dX8_takeBack_41 : decode cX8_takeBack 41 = .ok (.iconst 3, 1) := by decide +kernel
theorem dX8_takeBack_42 : decode cX8_takeBack 42 = .ok (.aload_n 0, 1) := by decide +kernel
theorem dX8_takeBack_43 : decode cX8_takeBack 43 = .ok (.iconst 0, 1) := by decide +kernel
theorem dX8_takeBack_44 : decode cX8_takeBack 44 = .ok (.iconst 3, 1) := by decide +kernel
theorem dX8_takeBack_45 : decode cX8_takeBack 45 = .ok (.invokevirtual 89, 3) := by decide +kernel
theorem dX8_takeBack_48 : decode cX8_takeBack 48 = .ok (.iastore, 1) := by decide +kernel
theorem dX8_takeBack_49 : decode cX8_takeBack 49 = .ok (.aload_n 0, 1) := by decide +kernel
theorem dX8_takeBack_50 : decode cX8_takeBack 50 = .ok (.getfield 7, 3) := by decide +kernel
theorem dX8_takeBack_53 : decode cX8_takeBack 53 = .ok (.iconst 4, 1) := by decide +kernel
theorem dX8_takeBack_54 : decode cX8_takeBack 54 = .ok (.aload_n 0, 1) := by decide +kernel
theorem dX8_takeBack_55 : decode cX8_takeBack 55 = .ok (.iconst 0, 1) := by decide +kernel
theorem dX8_takeBack_56 : decode cX8_takeBack 56 = .ok (.iconst 4, 1) := by decide +kernel
theorem dX8_takeBack_57 : decode cX8_takeBack 57 = .ok (.invokevirtual 89, 3) := by decide +kernel
theorem dX8_takeBack_60 : decode cX8_takeBack 60 = .ok (.iastore, 1) := by decide +kernel
theorem dX8_takeBack_61 : decode cX8_takeBack 61 = .ok (.aload_n 0, 1) := by decide +kernel
theorem dX8_takeBack_62 : decode cX8_takeBack 62 = .ok (.getfield 7, 3) := by decide +kernel
theorem dX8_takeBack_65 : decode cX8_takeBack 65 = .ok (.iconst 5, 1) := by decide +kernel
theorem dX8_takeBack_66 : decode cX8_takeBack 66 = .ok (.aload_n 0, 1) := by decide +kernel
theorem dX8_takeBack_67 : decode cX8_takeBack 67 = .ok (.iconst 0, 1) := by decide +kernel
theorem dX8_takeBack_68 : decode cX8_takeBack 68 = .ok (.iconst 5, 1) := by decide +kernel
theorem dX8_takeBack_69 : decode cX8_takeBack 69 = .ok (.invokevirtual 89, 3) := by decide +kernel
theorem dX8_takeBack_72 : decode cX8_takeBack 72 = .ok (.iastore, 1) := by decide +kernel
theorem dX8_takeBack_73 : decode cX8_takeBack 73 = .ok (.aload_n 0, 1) := by decide +kernel
theorem dX8_takeBack_74 : decode cX8_takeBack 74 = .ok (.iload_n 1, 1) := by decide +kernel
theorem dX8_takeBack_75 : decode cX8_takeBack 75 = .ok (.iconst 2, 1) := by decide +kernel
theorem dX8_takeBack_76 : decode cX8_takeBack 76 = .ok (.aload_n 0, 1) := by decide +kernel
theorem dX8_takeBack_77 : decode cX8_takeBack 77 = .ok (.iconst 0, 1) := by decide +kernel
theorem dX8_takeBack_78 : decode cX8_takeBack 78 = .ok (.bipush 7, 2) := by decide +kernel
theorem dX8_takeBack_80 : decode cX8_takeBack 80 = .ok (.invokevirtual 89, 3) := by decide +kernel
theorem dX8_takeBack_83 : decode cX8_takeBack 83 = .ok (.invokevirtual 22, 3) := by decide +kernel
theorem dX8_takeBack_86 : decode cX8_takeBack 86 = .ok (.aload_n 0, 1) := by decide +kernel
theorem dX8_takeBack_87 : decode cX8_takeBack 87 = .ok (.iload_n 1, 1) := by decide +kernel
theorem dX8_takeBack_88 : decode cX8_takeBack 88 = .ok (.iconst 3, 1) := by decide +kernel
theorem dX8_takeBack_89 : decode cX8_takeBack 89 = .ok (.aload_n 0, 1) := by decide +kernel
theorem dX8_takeBack_90 : decode cX8_takeBack 90 = .ok (.iconst 0, 1) := by decide +kernel
theorem dX8_takeBack_91 : decode cX8_takeBack 91 = .ok (.bipush 8, 2) := by decide +kernel
theorem dX8_takeBack_93 : decode cX8_takeBack 93 = .ok (.invokevirtual 89, 3) := by decide +kernel
theorem dX8_takeBack_96 : decode cX8_takeBack 96 = .ok (.invokevirtual 22, 3) := by decide +kernel
theorem dX8_takeBack_99 : decode cX8_takeBack 99 = .ok (.aload_n 0, 1) := by decide +kernel
theorem dX8_takeBack_100 : decode cX8_takeBack 100 = .ok (.iload_n 1, 1) := by decide +kernel
theorem dX8_takeBack_101 : decode cX8_takeBack 101 = .ok (.iconst 1, 1) := by decide +kernel
theorem dX8_takeBack_102 : decode cX8_takeBack 102 = .ok (.aload_n 0, 1) := by decide +kernel
theorem dX8_takeBack_103 : decode cX8_takeBack 103 = .ok (.iload_n 1, 1) := by decide +kernel
theorem dX8_takeBack_104 : decode cX8_takeBack 104 = .ok (.iconst 1, 1) := by decide +kernel
theorem dX8_takeBack_105 : decode cX8_takeBack 105 = .ok (.invokevirtual 44, 3) := by decide +kernel
theorem dX8_takeBack_108 : decode cX8_takeBack 108 = .ok (.iconst 1, 1) := by decide +kernel
theorem dX8_takeBack_109 : decode cX8_takeBack 109 = .ok (.iadd, 1) := by decide +kernel
theorem dX8_takeBack_110 : decode cX8_takeBack 110 = .ok (.invokevirtual 22, 3) := by decide +kernel
theorem dX8_takeBack_113 : decode cX8_takeBack 113 = .ok (.iconst 0, 1) := by decide +kernel
theorem dX8_takeBack_114 : decode cX8_takeBack 114 = .ok (.istore_n 2, 1) := by decide +kernel
theorem dX8_takeBack_115 : decode cX8_takeBack 115 = .ok (.iload_n 2, 1) := by decide +kernel
theorem dX8_takeBack_116 : decode cX8_takeBack 116 = .ok (.sipush 171, 3) := by decide +kernel
theorem dX8_takeBack_119 : decode cX8_takeBack 119 = .ok (.if_icmp .ge 30, 3) := by decide +kernel
theorem dX8_takeBack_122 : decode cX8_takeBack 122 = .ok (.aload_n 0, 1) := by decide +kernel
theorem dX8_takeBack_123 : decode cX8_takeBack 123 = .ok (.getfield 7, 3) := by decide +kernel
theorem dX8_takeBack_126 : decode cX8_takeBack 126 = .ok (.bipush 104, 2) := by decide +kernel
theorem dX8_takeBack_128 : decode cX8_takeBack 128 = .ok (.iload_n 2, 1) := by decide +kernel
theorem dX8_takeBack_129 : decode cX8_takeBack 129 = .ok (.iadd, 1) := by decide +kernel
theorem dX8_takeBack_130 : decode cX8_takeBack 130 = .ok (.aload_n 0, 1) := by decide +kernel
theorem dX8_takeBack_131 : decode cX8_takeBack 131 = .ok (.getfield 7, 3) := by decide +kernel
theorem dX8_takeBack_134 : decode cX8_takeBack 134 = .ok (.bipush 104, 2) := by decide +kernel
theorem dX8_takeBack_136 : decode cX8_takeBack 136 = .ok (.iload_n 2, 1) := by decide +kernel
theorem dX8_takeBack_137 : decode cX8_takeBack 137 = .ok (.iadd, 1) := by decide +kernel
theorem dX8_takeBack_138 : decode cX8_takeBack 138 = .ok (.bipush 9, 2) := by decide +kernel
theorem dX8_takeBack_140 : decode cX8_takeBack 140 = .ok (.iadd, 1) := by decide +kernel
theorem dX8_takeBack_141 : decode cX8_takeBack 141 = .ok (.iaload, 1) := by decide +kernel
theorem dX8_takeBack_142 : decode cX8_takeBack 142 = .ok (.iastore, 1) := by decide +kernel
theorem dX8_takeBack_143 : decode cX8_takeBack 143 = .ok (.iinc 2 1, 3) := by decide +kernel
theorem dX8_takeBack_146 : decode cX8_takeBack 146 = .ok (.goto (-31), 3) := by decide +kernel
theorem dX8_takeBack_149 : decode cX8_takeBack 149 = .ok (.iconst 0, 1) := by decide +kernel
theorem dX8_takeBack_150 : decode cX8_takeBack 150 = .ok (.istore_n 2, 1) := by decide +kernel
theorem dX8_takeBack_151 : decode cX8_takeBack 151 = .ok (.iload_n 2, 1) := by decide +kernel
theorem dX8_takeBack_152 : decode cX8_takeBack 152 = .ok (.bipush 9, 2) := by decide +kernel
theorem dX8_takeBack_154 : decode cX8_takeBack 154 = .ok (.if_icmp .ge 20, 3) := by decide +kernel
theorem dX8_takeBack_157 : decode cX8_takeBack 157 = .ok (.aload_n 0, 1) := by decide +kernel
theorem dX8_takeBack_158 : decode cX8_takeBack 158 = .ok (.getfield 7, 3) := by decide +kernel
theorem dX8_takeBack_161 : decode cX8_takeBack 161 = .ok (.sipush 275, 3) := by decide +kernel
theorem dX8_takeBack_164 : decode cX8_takeBack 164 = .ok (.iload_n 2, 1) := by decide +kernel
theorem dX8_takeBack_165 : decode cX8_takeBack 165 = .ok (.iadd, 1) := by decide +kernel
theorem dX8_takeBack_166 : decode cX8_takeBack 166 = .ok (.iconst 0, 1) := by decide +kernel
theorem dX8_takeBack_167 : decode cX8_takeBack 167 = .ok (.iastore, 1) := by decide +kernel
theorem dX8_takeBack_168 : decode cX8_takeBack 168 = .ok (.iinc 2 1, 3) := by decide +kernel
theorem dX8_takeBack_171 : decode cX8_takeBack 171 = .ok (.goto (-20), 3) := by decide +kernel
theorem dX8_takeBack_174 : decode cX8_takeBack 174 = .ok (.aload_n 0, 1) := by decide +kernel
theorem dX8_takeBack_175 : decode cX8_takeBack 175 = .ok (.getfield 7, 3) := by decide +kernel
theorem dX8_takeBack_178 : decode cX8_takeBack 178 = .ok (.bipush 7, 2) := by decide +kernel
theorem dX8_takeBack_180 : decode cX8_takeBack 180 = .ok (.dup2, 1) := by decide +kernel
theorem dX8_takeBack_181 : decode cX8_takeBack 181 = .ok (.iaload, 1) := by decide +kernel
theorem dX8_takeBack_182 : decode cX8_takeBack 182 = .ok (.iconst 1, 1) := by decide +kernel
theorem dX8_takeBack_183 : decode cX8_takeBack 183 = .ok (.isub, 1) := by decide +kernel
theorem dX8_takeBack_184 : decode cX8_takeBack 184 = .ok (.iastore, 1) := by decide +kernel
theorem dX8_takeBack_185 : decode cX8_takeBack 185 = .ok (.aload_n 0, 1) := by decide +kernel
theorem dX8_takeBack_186 : decode cX8_takeBack 186 = .ok (.getfield 7, 3) := by decide +kernel
theorem dX8_takeBack_189 : decode cX8_takeBack 189 = .ok (.bipush 8, 2) := by decide +kernel
theorem dX8_takeBack_191 : decode cX8_takeBack 191 = .ok (.dup2, 1) := by decide +kernel
theorem dX8_takeBack_192 : decode cX8_takeBack 192 = .ok (.iaload, 1) := by decide +kernel
theorem dX8_takeBack_193 : decode cX8_takeBack 193 = .ok (.iconst 1, 1) := by decide +kernel
theorem dX8_takeBack_194 : decode cX8_takeBack 194 = .ok (.isub, 1) := by decide +kernel
theorem dX8_takeBack_195 : decode cX8_takeBack 195 = .ok (.iastore, 1) := by decide +kernel
theorem dX8_takeBack_196 : decode cX8_takeBack 196 = .ok (.aload_n 0, 1) := by decide +kernel
theorem dX8_takeBack_197 : decode cX8_takeBack 197 = .ok (.getfield 7, 3) := by decide +kernel
theorem dX8_takeBack_200 : decode cX8_takeBack 200 = .ok (.bipush 6, 2) := by decide +kernel
theorem dX8_takeBack_202 : decode cX8_takeBack 202 = .ok (.dup2, 1) := by decide +kernel
theorem dX8_takeBack_203 : decode cX8_takeBack 203 = .ok (.iaload, 1) := by decide +kernel
theorem dX8_takeBack_204 : decode cX8_takeBack 204 = .ok (.iconst 1, 1) := by decide +kernel
theorem dX8_takeBack_205 : decode cX8_takeBack 205 = .ok (.isub, 1) := by decide +kernel
theorem dX8_takeBack_206 : decode cX8_takeBack 206 = .ok (.iastore, 1) := by decide +kernel
theorem dX8_takeBack_207 : decode cX8_takeBack 207 = .ok (.aload_n 0, 1) := by decide +kernel
theorem dX8_takeBack_208 : decode cX8_takeBack 208 = .ok (.getfield 7, 3) := by decide +kernel
theorem dX8_takeBack_211 : decode cX8_takeBack 211 = .ok (.iconst 1, 1) := by decide +kernel
theorem dX8_takeBack_212 : decode cX8_takeBack 212 = .ok (.iaload, 1) := by decide +kernel
theorem dX8_takeBack_213 : decode cX8_takeBack 213 = .ok (.ireturn, 1) := by decide +kernel
theorem dX8_inBoxes_0 : decode cX8_inBoxes 0 = .ok (.iconst 0, 1) := by decide +kernel
theorem dX8_inBoxes_1 : decode cX8_inBoxes 1 = .ok (.istore_n 1, 1) := by decide +kernel
theorem dX8_inBoxes_2 : decode cX8_inBoxes 2 = .ok (.iconst 0, 1) := by decide +kernel
theorem dX8_inBoxes_3 : decode cX8_inBoxes 3 = .ok (.istore_n 2, 1) := by decide +kernel
theorem dX8_inBoxes_4 : decode cX8_inBoxes 4 = .ok (.iload_n 2, 1) := by decide +kernel
theorem dX8_inBoxes_5 : decode cX8_inBoxes 5 = .ok (.iconst 5, 1) := by decide +kernel
theorem dX8_inBoxes_6 : decode cX8_inBoxes 6 = .ok (.if_icmp .ge 28, 3) := by decide +kernel
theorem dX8_inBoxes_9 : decode cX8_inBoxes 9 = .ok (.iload_n 1, 1) := by decide +kernel
theorem dX8_inBoxes_10 : decode cX8_inBoxes 10 = .ok (.aload_n 0, 1) := by decide +kernel
theorem dX8_inBoxes_11 : decode cX8_inBoxes 11 = .ok (.iload_n 2, 1) := by decide +kernel
theorem dX8_inBoxes_12 : decode cX8_inBoxes 12 = .ok (.iconst 2, 1) := by decide +kernel
theorem dX8_inBoxes_13 : decode cX8_inBoxes 13 = .ok (.invokevirtual 44, 3) := by decide +kernel
theorem dX8_inBoxes_16 : decode cX8_inBoxes 16 = .ok (.bipush (-6), 2) := by decide +kernel
theorem dX8_inBoxes_18 : decode cX8_inBoxes 18 = .ok (.if_icmp .ne 7, 3) := by decide +kernel
theorem dX8_inBoxes_21 : decode cX8_inBoxes 21 = .ok (.iconst 0, 1) := by decide +kernel
theorem dX8_inBoxes_22 : decode cX8_inBoxes 22 = .ok (.goto 4, 3) := by decide +kernel
theorem dX8_inBoxes_25 : decode cX8_inBoxes 25 = .ok (.iconst 1, 1) := by decide +kernel
theorem dX8_inBoxes_26 : decode cX8_inBoxes 26 = .ok (.iadd, 1) := by decide +kernel
theorem dX8_inBoxes_27 : decode cX8_inBoxes 27 = .ok (.istore_n 1, 1) := by decide +kernel
theorem dX8_inBoxes_28 : decode cX8_inBoxes 28 = .ok (.iinc 2 1, 3) := by decide +kernel
theorem dX8_inBoxes_31 : decode cX8_inBoxes 31 = .ok (.goto (-27), 3) := by decide +kernel
theorem dX8_inBoxes_34 : decode cX8_inBoxes 34 = .ok (.iload_n 1, 1) := by decide +kernel
theorem dX8_inBoxes_35 : decode cX8_inBoxes 35 = .ok (.ireturn, 1) := by decide +kernel
theorem dX8_putIn_0 : decode cX8_putIn 0 = .ok (.iload_n 1, 1) := by decide +kernel
theorem dX8_putIn_1 : decode cX8_putIn 1 = .ok (.invokestatic 92, 3) := by decide +kernel
theorem dX8_putIn_4 : decode cX8_putIn 4 = .ok (.ifCond .eq 11, 3) := by decide +kernel
theorem dX8_putIn_7 : decode cX8_putIn 7 = .ok (.iload_n 2, 1) := by decide +kernel
theorem dX8_putIn_8 : decode cX8_putIn 8 = .ok (.iload_n 3, 1) := by decide +kernel
theorem dX8_putIn_9 : decode cX8_putIn 9 = .ok (.invokestatic 95, 3) := by decide +kernel
theorem dX8_putIn_12 : decode cX8_putIn 12 = .ok (.ifCond .ne 5, 3) := by decide +kernel
theorem dX8_putIn_15 : decode cX8_putIn 15 = .ok (.iconst (-1), 1) := by decide +kernel
theorem dX8_putIn_16 : decode cX8_putIn 16 = .ok (.ireturn, 1) := by decide +kernel
theorem dX8_putIn_17 : decode cX8_putIn 17 = .ok (.aload_n 0, 1) := by decide +kernel
theorem dX8_putIn_18 : decode cX8_putIn 18 = .ok (.iload_n 1, 1) := by decide +kernel
theorem dX8_putIn_19 : decode cX8_putIn 19 = .ok (.iconst 2, 1) := by decide +kernel
theorem dX8_putIn_20 : decode cX8_putIn 20 = .ok (.invokevirtual 44, 3) := by decide +kernel
theorem dX8_putIn_23 : decode cX8_putIn 23 = .ok (.bipush (-6), 2) := by decide +kernel
theorem dX8_putIn_25 : decode cX8_putIn 25 = .ok (.if_icmp .ne 14, 3) := by decide +kernel
theorem dX8_putIn_28 : decode cX8_putIn 28 = .ok (.aload_n 0, 1) := by decide +kernel
theorem dX8_putIn_29 : decode cX8_putIn 29 = .ok (.iload_n 2, 1) := by decide +kernel
theorem dX8_putIn_30 : decode cX8_putIn 30 = .ok (.iload_n 3, 1) := by decide +kernel
theorem dX8_putIn_31 : decode cX8_putIn 31 = .ok (.invokevirtual 60, 3) := by decide +kernel
theorem dX8_putIn_34 : decode cX8_putIn 34 = .ok (.bipush (-6), 2) := by decide +kernel
theorem dX8_putIn_36 : decode cX8_putIn 36 = .ok (.if_icmp .eq 6, 3) := by decide +kernel
theorem dX8_putIn_39 : decode cX8_putIn 39 = .ok (.bipush (-3), 2) := by decide +kernel
theorem dX8_putIn_41 : decode cX8_putIn 41 = .ok (.ireturn, 1) := by decide +kernel
theorem dX8_putIn_42 : decode cX8_putIn 42 = .ok (.aload_n 0, 1) := by decide +kernel
theorem dX8_putIn_43 : decode cX8_putIn 43 = .ok (.invokevirtual 99, 3) := by decide +kernel
theorem dX8_putIn_46 : decode cX8_putIn 46 = .ok (.aload_n 0, 1) := by decide +kernel
theorem dX8_putIn_47 : decode cX8_putIn 47 = .ok (.iload_n 1, 1) := by decide +kernel
theorem dX8_putIn_48 : decode cX8_putIn 48 = .ok (.iconst 2, 1) := by decide +kernel
theorem dX8_putIn_49 : decode cX8_putIn 49 = .ok (.iload_n 2, 1) := by decide +kernel
theorem dX8_putIn_50 : decode cX8_putIn 50 = .ok (.invokevirtual 22, 3) := by decide +kernel
theorem dX8_putIn_53 : decode cX8_putIn 53 = .ok (.aload_n 0, 1) := by decide +kernel
theorem dX8_putIn_54 : decode cX8_putIn 54 = .ok (.iload_n 1, 1) := by decide +kernel
theorem dX8_putIn_55 : decode cX8_putIn 55 = .ok (.iconst 3, 1) := by decide +kernel
theorem dX8_putIn_56 : decode cX8_putIn 56 = .ok (.iload_n 3, 1) := by decide +kernel
theorem dX8_putIn_57 : decode cX8_putIn 57 = .ok (.invokevirtual 22, 3) := by decide +kernel
theorem dX8_putIn_60 : decode cX8_putIn 60 = .ok (.aload_n 0, 1) := by decide +kernel
theorem dX8_putIn_61 : decode cX8_putIn 61 = .ok (.invokevirtual 102, 3) := by decide +kernel
theorem dX8_putIn_64 : decode cX8_putIn 64 = .ok (.ireturn, 1) := by decide +kernel
theorem dX8_takeOut_0 : decode cX8_takeOut 0 = .ok (.iload_n 1, 1) := by decide +kernel
theorem dX8_takeOut_1 : decode cX8_takeOut 1 = .ok (.invokestatic 92, 3) := by decide +kernel
theorem dX8_takeOut_4 : decode cX8_takeOut 4 = .ok (.ifCond .ne 5, 3) := by decide +kernel
theorem dX8_takeOut_7 : decode cX8_takeOut 7 = .ok (.iconst (-1), 1) := by decide +kernel
theorem dX8_takeOut_8 : decode cX8_takeOut 8 = .ok (.ireturn, 1) := by decide +kernel
theorem dX8_takeOut_9 : decode cX8_takeOut 9 = .ok (.aload_n 0, 1) := by decide +kernel
theorem dX8_takeOut_10 : decode cX8_takeOut 10 = .ok (.iload_n 1, 1) := by decide +kernel
theorem dX8_takeOut_11 : decode cX8_takeOut 11 = .ok (.iconst 2, 1) := by decide +kernel
theorem dX8_takeOut_12 : decode cX8_takeOut 12 = .ok (.invokevirtual 44, 3) := by decide +kernel
theorem dX8_takeOut_15 : decode cX8_takeOut 15 = .ok (.bipush (-6), 2) := by decide +kernel
theorem dX8_takeOut_17 : decode cX8_takeOut 17 = .ok (.if_icmp .ne 6, 3) := by decide +kernel
theorem dX8_takeOut_20 : decode cX8_takeOut 20 = .ok (.bipush (-3), 2) := by decide +kernel
theorem dX8_takeOut_22 : decode cX8_takeOut 22 = .ok (.ireturn, 1) := by decide +kernel
theorem dX8_takeOut_23 : decode cX8_takeOut 23 = .ok (.aload_n 0, 1) := by decide +kernel
theorem dX8_takeOut_24 : decode cX8_takeOut 24 = .ok (.invokevirtual 99, 3) := by decide +kernel
theorem dX8_takeOut_27 : decode cX8_takeOut 27 = .ok (.bipush 10, 2) := by decide +kernel
theorem dX8_takeOut_29 : decode cX8_takeOut 29 = .ok (.aload_n 0, 1) := by decide +kernel
theorem dX8_takeOut_30 : decode cX8_takeOut 30 = .ok (.iload_n 1, 1) := by decide +kernel
theorem dX8_takeOut_31 : decode cX8_takeOut 31 = .ok (.iconst 2, 1) := by decide +kernel
theorem dX8_takeOut_32 : decode cX8_takeOut 32 = .ok (.invokevirtual 44, 3) := by decide +kernel
theorem dX8_takeOut_35 : decode cX8_takeOut 35 = .ok (.imul, 1) := by decide +kernel
theorem dX8_takeOut_36 : decode cX8_takeOut 36 = .ok (.aload_n 0, 1) := by decide +kernel
theorem dX8_takeOut_37 : decode cX8_takeOut 37 = .ok (.iload_n 1, 1) := by decide +kernel
theorem dX8_takeOut_38 : decode cX8_takeOut 38 = .ok (.iconst 3, 1) := by decide +kernel
theorem dX8_takeOut_39 : decode cX8_takeOut 39 = .ok (.invokevirtual 44, 3) := by decide +kernel
theorem dX8_takeOut_42 : decode cX8_takeOut 42 = .ok (.iadd, 1) := by decide +kernel
theorem dX8_takeOut_43 : decode cX8_takeOut 43 = .ok (.istore_n 2, 1) := by decide +kernel
theorem dX8_takeOut_44 : decode cX8_takeOut 44 = .ok (.aload_n 0, 1) := by decide +kernel
theorem dX8_takeOut_45 : decode cX8_takeOut 45 = .ok (.iload_n 1, 1) := by decide +kernel
theorem dX8_takeOut_46 : decode cX8_takeOut 46 = .ok (.iconst 2, 1) := by decide +kernel
theorem dX8_takeOut_47 : decode cX8_takeOut 47 = .ok (.bipush (-6), 2) := by decide +kernel
theorem dX8_takeOut_49 : decode cX8_takeOut 49 = .ok (.invokevirtual 22, 3) := by decide +kernel
theorem dX8_takeOut_52 : decode cX8_takeOut 52 = .ok (.aload_n 0, 1) := by decide +kernel
theorem dX8_takeOut_53 : decode cX8_takeOut 53 = .ok (.iload_n 1, 1) := by decide +kernel
theorem dX8_takeOut_54 : decode cX8_takeOut 54 = .ok (.iconst 3, 1) := by decide +kernel
theorem dX8_takeOut_55 : decode cX8_takeOut 55 = .ok (.bipush (-6), 2) := by decide +kernel
theorem dX8_takeOut_57 : decode cX8_takeOut 57 = .ok (.invokevirtual 22, 3) := by decide +kernel
theorem dX8_takeOut_60 : decode cX8_takeOut 60 = .ok (.iload_n 2, 1) := by decide +kernel
theorem dX8_takeOut_61 : decode cX8_takeOut 61 = .ok (.ireturn, 1) := by decide +kernel
theorem dX8_wind_0 : decode cX8_wind 0 = .ok (.iload_n 1, 1) := by decide +kernel
theorem dX8_wind_1 : decode cX8_wind 1 = .ok (.invokestatic 92, 3) := by decide +kernel
theorem dX8_wind_4 : decode cX8_wind 4 = .ok (.ifCond .ne 5, 3) := by decide +kernel
theorem dX8_wind_7 : decode cX8_wind 7 = .ok (.iconst (-1), 1) := by decide +kernel
theorem dX8_wind_8 : decode cX8_wind 8 = .ok (.ireturn, 1) := by decide +kernel
theorem dX8_wind_9 : decode cX8_wind 9 = .ok (.iload_n 2, 1) := by decide +kernel
theorem dX8_wind_10 : decode cX8_wind 10 = .ok (.iconst 0, 1) := by decide +kernel
theorem dX8_wind_11 : decode cX8_wind 11 = .ok (.bipush 9, 2) := by decide +kernel
theorem dX8_wind_13 : decode cX8_wind 13 = .ok (.invokestatic 40, 3) := by decide +kernel
theorem dX8_wind_16 : decode cX8_wind 16 = .ok (.ifCond .eq 13, 3) := by decide +kernel
theorem dX8_wind_19 : decode cX8_wind 19 = .ok (.iload_n 3, 1) := by decide +kernel
theorem dX8_wind_20 : decode cX8_wind 20 = .ok (.iconst 0, 1) := by decide +kernel
theorem dX8_wind_21 : decode cX8_wind 21 = .ok (.bipush 99, 2) := by decide +kernel
theorem dX8_wind_23 : decode cX8_wind 23 = .ok (.invokestatic 40, 3) := by decide +kernel
theorem dX8_wind_26 : decode cX8_wind 26 = .ok (.ifCond .ne 6, 3) := by decide +kernel
theorem dX8_wind_29 : decode cX8_wind 29 = .ok (.bipush (-2), 2) := by decide +kernel
theorem dX8_wind_31 : decode cX8_wind 31 = .ok (.ireturn, 1) := by decide +kernel
theorem dX8_wind_32 : decode cX8_wind 32 = .ok (.aload_n 0, 1) := by decide +kernel
theorem dX8_wind_33 : decode cX8_wind 33 = .ok (.iload_n 1, 1) := by decide +kernel
theorem dX8_wind_34 : decode cX8_wind 34 = .ok (.iconst 2, 1) := by decide +kernel
theorem dX8_wind_35 : decode cX8_wind 35 = .ok (.invokevirtual 44, 3) := by decide +kernel
theorem dX8_wind_38 : decode cX8_wind 38 = .ok (.bipush (-6), 2) := by decide +kernel
theorem dX8_wind_40 : decode cX8_wind 40 = .ok (.if_icmp .eq 6, 3) := by decide +kernel
theorem dX8_wind_43 : decode cX8_wind 43 = .ok (.bipush (-3), 2) := by decide +kernel
theorem dX8_wind_45 : decode cX8_wind 45 = .ok (.ireturn, 1) := by decide +kernel
theorem dX8_wind_46 : decode cX8_wind 46 = .ok (.aload_n 0, 1) := by decide +kernel
theorem dX8_wind_47 : decode cX8_wind 47 = .ok (.invokevirtual 99, 3) := by decide +kernel
theorem dX8_wind_50 : decode cX8_wind 50 = .ok (.aload_n 0, 1) := by decide +kernel
theorem dX8_wind_51 : decode cX8_wind 51 = .ok (.iload_n 1, 1) := by decide +kernel
theorem dX8_wind_52 : decode cX8_wind 52 = .ok (.iconst 1, 1) := by decide +kernel
theorem dX8_wind_53 : decode cX8_wind 53 = .ok (.invokevirtual 44, 3) := by decide +kernel
theorem dX8_wind_56 : decode cX8_wind 56 = .ok (.istore 4, 2) := by decide +kernel
theorem dX8_wind_58 : decode cX8_wind 58 = .ok (.aload_n 0, 1) := by decide +kernel
theorem dX8_wind_59 : decode cX8_wind 59 = .ok (.iload_n 1, 1) := by decide +kernel
theorem dX8_wind_60 : decode cX8_wind 60 = .ok (.iconst 0, 1) := by decide +kernel
theorem dX8_wind_61 : decode cX8_wind 61 = .ok (.iload_n 2, 1) := by decide +kernel
theorem dX8_wind_62 : decode cX8_wind 62 = .ok (.invokevirtual 22, 3) := by decide +kernel
theorem dX8_wind_65 : decode cX8_wind 65 = .ok (.aload_n 0, 1) := by decide +kernel
theorem dX8_wind_66 : decode cX8_wind 66 = .ok (.iload_n 1, 1) := by decide +kernel
theorem dX8_wind_67 : decode cX8_wind 67 = .ok (.iconst 1, 1) := by decide +kernel
theorem dX8_wind_68 : decode cX8_wind 68 = .ok (.iload_n 3, 1) := by decide +kernel
theorem dX8_wind_69 : decode cX8_wind 69 = .ok (.invokevirtual 22, 3) := by decide +kernel
theorem dX8_wind_72 : decode cX8_wind 72 = .ok (.iload 4, 2) := by decide +kernel
theorem dX8_wind_74 : decode cX8_wind 74 = .ok (.ireturn, 1) := by decide +kernel
theorem dX8_sets_0 : decode cX8_sets 0 = .ok (.aload_n 0, 1) := by decide +kernel
theorem dX8_sets_1 : decode cX8_sets 1 = .ok (.invokevirtual 99, 3) := by decide +kernel
theorem dX8_sets_4 : decode cX8_sets 4 = .ok (.aload_n 0, 1) := by decide +kernel
theorem dX8_sets_5 : decode cX8_sets 5 = .ok (.getfield 7, 3) := by decide +kernel
theorem dX8_sets_8 : decode cX8_sets 8 = .ok (.iload_n 1, 1) := by decide +kernel
theorem dX8_sets_9 : decode cX8_sets 9 = .ok (.iaload, 1) := by decide +kernel
theorem dX8_sets_10 : decode cX8_sets 10 = .ok (.istore_n 3, 1) := by decide +kernel
theorem dX8_sets_11 : decode cX8_sets 11 = .ok (.aload_n 0, 1) := by decide +kernel
theorem dX8_sets_12 : decode cX8_sets 12 = .ok (.getfield 7, 3) := by decide +kernel
theorem dX8_sets_15 : decode cX8_sets 15 = .ok (.iload_n 1, 1) := by decide +kernel
theorem dX8_sets_16 : decode cX8_sets 16 = .ok (.iload_n 2, 1) := by decide +kernel
theorem dX8_sets_17 : decode cX8_sets 17 = .ok (.iastore, 1) := by decide +kernel
theorem dX8_sets_18 : decode cX8_sets 18 = .ok (.iload_n 3, 1) := by decide +kernel
theorem dX8_sets_19 : decode cX8_sets 19 = .ok (.ireturn, 1) := by decide +kernel
theorem dX8_moveBoxes_0 : decode cX8_moveBoxes 0 = .ok (.iload_n 1, 1) := by decide +kernel
theorem dX8_moveBoxes_1 : decode cX8_moveBoxes 1 = .ok (.iload_n 2, 1) := by decide +kernel
theorem dX8_moveBoxes_2 : decode cX8_moveBoxes 2 = .ok (.invokestatic 95, 3) := by decide +kernel
theorem dX8_moveBoxes_5 : decode cX8_moveBoxes 5 = .ok (.ifCond .eq 14, 3) := by decide +kernel
theorem dX8_moveBoxes_8 : decode cX8_moveBoxes 8 = .ok (.aload_n 0, 1) := by decide +kernel
theorem dX8_moveBoxes_9 : decode cX8_moveBoxes 9 = .ok (.iconst 3, 1) := by decide +kernel
theorem dX8_moveBoxes_10 : decode cX8_moveBoxes 10 = .ok (.iload_n 1, 1) := by decide +kernel
theorem dX8_moveBoxes_11 : decode cX8_moveBoxes 11 = .ok (.iadd, 1) := by decide +kernel
theorem dX8_moveBoxes_12 : decode cX8_moveBoxes 12 = .ok (.iload_n 2, 1) := by decide +kernel
theorem dX8_moveBoxes_13 : decode cX8_moveBoxes 13 = .ok (.invokevirtual 105, 3) := by decide +kernel
theorem dX8_moveBoxes_16 : decode cX8_moveBoxes 16 = .ok (.goto 4, 3) := by decide +kernel
theorem dX8_moveBoxes_19 : decode cX8_moveBoxes 19 = .ok (.iconst (-1), 1) := by decide +kernel
theorem dX8_moveBoxes_20 : decode cX8_moveBoxes 20 = .ok (.ireturn, 1) := by decide +kernel
theorem dX8_draw_0 : decode cX8_draw 0 = .ok (.iload_n 1, 1) := by decide +kernel
theorem dX8_draw_1 : decode cX8_draw 1 = .ok (.invokestatic 108, 3) := by decide +kernel
theorem dX8_draw_4 : decode cX8_draw 4 = .ok (.ifCond .eq 28, 3) := by decide +kernel
theorem dX8_draw_7 : decode cX8_draw 7 = .ok (.iload_n 2, 1) := by decide +kernel
theorem dX8_draw_8 : decode cX8_draw 8 = .ok (.iconst 0, 1) := by decide +kernel
theorem dX8_draw_9 : decode cX8_draw 9 = .ok (.iconst 5, 1) := by decide +kernel
theorem dX8_draw_10 : decode cX8_draw 10 = .ok (.invokestatic 40, 3) := by decide +kernel
theorem dX8_draw_13 : decode cX8_draw 13 = .ok (.ifCond .eq 19, 3) := by decide +kernel
theorem dX8_draw_16 : decode cX8_draw 16 = .ok (.aload_n 0, 1) := by decide +kernel
theorem dX8_draw_17 : decode cX8_draw 17 = .ok (.bipush 32, 2) := by decide +kernel
theorem dX8_draw_19 : decode cX8_draw 19 = .ok (.iconst 2, 1) := by decide +kernel
theorem dX8_draw_20 : decode cX8_draw 20 = .ok (.iload_n 1, 1) := by decide +kernel
theorem dX8_draw_21 : decode cX8_draw 21 = .ok (.imul, 1) := by decide +kernel
theorem dX8_draw_22 : decode cX8_draw 22 = .ok (.iadd, 1) := by decide +kernel
theorem dX8_draw_23 : decode cX8_draw 23 = .ok (.iconst 0, 1) := by decide +kernel
theorem dX8_draw_24 : decode cX8_draw 24 = .ok (.iadd, 1) := by decide +kernel
theorem dX8_draw_25 : decode cX8_draw 25 = .ok (.iload_n 2, 1) := by decide +kernel
theorem dX8_draw_26 : decode cX8_draw 26 = .ok (.invokevirtual 105, 3) := by decide +kernel
theorem dX8_draw_29 : decode cX8_draw 29 = .ok (.goto 4, 3) := by decide +kernel
theorem dX8_draw_32 : decode cX8_draw 32 = .ok (.iconst (-1), 1) := by decide +kernel
theorem dX8_draw_33 : decode cX8_draw 33 = .ok (.ireturn, 1) := by decide +kernel
theorem dX8_mend_0 : decode cX8_mend 0 = .ok (.iload_n 1, 1) := by decide +kernel
theorem dX8_mend_1 : decode cX8_mend 1 = .ok (.invokestatic 108, 3) := by decide +kernel
theorem dX8_mend_4 : decode cX8_mend 4 = .ok (.ifCond .ne 5, 3) := by decide +kernel
theorem dX8_mend_7 : decode cX8_mend 7 = .ok (.iconst (-1), 1) := by decide +kernel
theorem dX8_mend_8 : decode cX8_mend 8 = .ok (.ireturn, 1) := by decide +kernel
theorem dX8_mend_9 : decode cX8_mend 9 = .ok (.iload_n 2, 1) := by decide +kernel
theorem dX8_mend_10 : decode cX8_mend 10 = .ok (.iconst 0, 1) := by decide +kernel
theorem dX8_mend_11 : decode cX8_mend 11 = .ok (.bipush 99, 2) := by decide +kernel
theorem dX8_mend_13 : decode cX8_mend 13 = .ok (.invokestatic 40, 3) := by decide +kernel
theorem dX8_mend_16 : decode cX8_mend 16 = .ok (.ifCond .eq 19, 3) := by decide +kernel
theorem dX8_mend_19 : decode cX8_mend 19 = .ok (.aload_n 0, 1) := by decide +kernel
theorem dX8_mend_20 : decode cX8_mend 20 = .ok (.bipush 32, 2) := by decide +kernel
theorem dX8_mend_22 : decode cX8_mend 22 = .ok (.iconst 2, 1) := by decide +kernel
theorem dX8_mend_23 : decode cX8_mend 23 = .ok (.iload_n 1, 1) := by decide +kernel
theorem dX8_mend_24 : decode cX8_mend 24 = .ok (.imul, 1) := by decide +kernel
theorem dX8_mend_25 : decode cX8_mend 25 = .ok (.iadd, 1) := by decide +kernel
theorem dX8_mend_26 : decode cX8_mend 26 = .ok (.iconst 1, 1) := by decide +kernel
theorem dX8_mend_27 : decode cX8_mend 27 = .ok (.iadd, 1) := by decide +kernel
theorem dX8_mend_28 : decode cX8_mend 28 = .ok (.iload_n 2, 1) := by decide +kernel
theorem dX8_mend_29 : decode cX8_mend 29 = .ok (.invokevirtual 105, 3) := by decide +kernel
theorem dX8_mend_32 : decode cX8_mend 32 = .ok (.goto 5, 3) := by decide +kernel
theorem dX8_mend_35 : decode cX8_mend 35 = .ok (.bipush (-2), 2) := by decide +kernel
theorem dX8_mend_37 : decode cX8_mend 37 = .ok (.ireturn, 1) := by decide +kernel
theorem dX8_setSpeed_0 : decode cX8_setSpeed 0 = .ok (.iload_n 1, 1) := by decide +kernel
theorem dX8_setSpeed_1 : decode cX8_setSpeed 1 = .ok (.iconst 1, 1) := by decide +kernel
theorem dX8_setSpeed_2 : decode cX8_setSpeed 2 = .ok (.iconst 3, 1) := by decide +kernel
theorem dX8_setSpeed_3 : decode cX8_setSpeed 3 = .ok (.invokestatic 40, 3) := by decide +kernel
theorem dX8_setSpeed_6 : decode cX8_setSpeed 6 = .ok (.ifCond .eq 12, 3) := by decide +kernel
theorem dX8_setSpeed_9 : decode cX8_setSpeed 9 = .ok (.aload_n 0, 1) := by decide +kernel
theorem dX8_setSpeed_10 : decode cX8_setSpeed 10 = .ok (.iconst 2, 1) := by decide +kernel
theorem dX8_setSpeed_11 : decode cX8_setSpeed 11 = .ok (.iload_n 1, 1) := by decide +kernel
theorem dX8_setSpeed_12 : decode cX8_setSpeed 12 = .ok (.invokevirtual 105, 3) := by decide +kernel
theorem dX8_setSpeed_15 : decode cX8_setSpeed 15 = .ok (.goto 5, 3) := by decide +kernel
theorem dX8_setSpeed_18 : decode cX8_setSpeed 18 = .ok (.bipush (-2), 2) := by decide +kernel
theorem dX8_setSpeed_20 : decode cX8_setSpeed 20 = .ok (.ireturn, 1) := by decide +kernel
theorem dX8_addsCard_0 : decode cX8_addsCard 0 = .ok (.bipush 56, 2) := by decide +kernel
theorem dX8_addsCard_2 : decode cX8_addsCard 2 = .ok (.iconst 3, 1) := by decide +kernel
theorem dX8_addsCard_3 : decode cX8_addsCard 3 = .ok (.aload_n 0, 1) := by decide +kernel
theorem dX8_addsCard_4 : decode cX8_addsCard 4 = .ok (.getfield 7, 3) := by decide +kernel
theorem dX8_addsCard_7 : decode cX8_addsCard 7 = .ok (.iconst 0, 1) := by decide +kernel
theorem dX8_addsCard_8 : decode cX8_addsCard 8 = .ok (.iaload, 1) := by decide +kernel
theorem dX8_addsCard_9 : decode cX8_addsCard 9 = .ok (.imul, 1) := by decide +kernel
theorem dX8_addsCard_10 : decode cX8_addsCard 10 = .ok (.iadd, 1) := by decide +kernel
theorem dX8_addsCard_11 : decode cX8_addsCard 11 = .ok (.istore 4, 2) := by decide +kernel
theorem dX8_addsCard_13 : decode cX8_addsCard 13 = .ok (.aload_n 0, 1) := by decide +kernel
theorem dX8_addsCard_14 : decode cX8_addsCard 14 = .ok (.getfield 7, 3) := by decide +kernel
theorem dX8_addsCard_17 : decode cX8_addsCard 17 = .ok (.iload 4, 2) := by decide +kernel
theorem dX8_addsCard_19 : decode cX8_addsCard 19 = .ok (.iconst 0, 1) := by decide +kernel
theorem dX8_addsCard_20 : decode cX8_addsCard 20 = .ok (.iadd, 1) := by decide +kernel
theorem dX8_addsCard_21 : decode cX8_addsCard 21 = .ok (.iload_n 1, 1) := by decide +kernel
theorem dX8_addsCard_22 : decode cX8_addsCard 22 = .ok (.iastore, 1) := by decide +kernel
theorem dX8_addsCard_23 : decode cX8_addsCard 23 = .ok (.aload_n 0, 1) := by decide +kernel
theorem dX8_addsCard_24 : decode cX8_addsCard 24 = .ok (.getfield 7, 3) := by decide +kernel
theorem dX8_addsCard_27 : decode cX8_addsCard 27 = .ok (.iload 4, 2) := by decide +kernel
theorem dX8_addsCard_29 : decode cX8_addsCard 29 = .ok (.iconst 1, 1) := by decide +kernel
theorem dX8_addsCard_30 : decode cX8_addsCard 30 = .ok (.iadd, 1) := by decide +kernel
theorem dX8_addsCard_31 : decode cX8_addsCard 31 = .ok (.iload_n 2, 1) := by decide +kernel
theorem dX8_addsCard_32 : decode cX8_addsCard 32 = .ok (.iastore, 1) := by decide +kernel
theorem dX8_addsCard_33 : decode cX8_addsCard 33 = .ok (.aload_n 0, 1) := by decide +kernel
theorem dX8_addsCard_34 : decode cX8_addsCard 34 = .ok (.getfield 7, 3) := by decide +kernel
theorem dX8_addsCard_37 : decode cX8_addsCard 37 = .ok (.iload 4, 2) := by decide +kernel
theorem dX8_addsCard_39 : decode cX8_addsCard 39 = .ok (.iconst 1, 1) := by decide +kernel
theorem dX8_addsCard_40 : decode cX8_addsCard 40 = .ok (.iadd, 1) := by decide +kernel
theorem dX8_addsCard_41 : decode cX8_addsCard 41 = .ok (.iconst 1, 1) := by decide +kernel
theorem dX8_addsCard_42 : decode cX8_addsCard 42 = .ok (.iadd, 1) := by decide +kernel
theorem dX8_addsCard_43 : decode cX8_addsCard 43 = .ok (.iload_n 3, 1) := by decide +kernel
theorem dX8_addsCard_44 : decode cX8_addsCard 44 = .ok (.iastore, 1) := by decide +kernel
theorem dX8_addsCard_45 : decode cX8_addsCard 45 = .ok (.aload_n 0, 1) := by decide +kernel
theorem dX8_addsCard_46 : decode cX8_addsCard 46 = .ok (.getfield 7, 3) := by decide +kernel
theorem dX8_addsCard_49 : decode cX8_addsCard 49 = .ok (.iconst 0, 1) := by decide +kernel
theorem dX8_addsCard_50 : decode cX8_addsCard 50 = .ok (.dup2, 1) := by decide +kernel
theorem dX8_addsCard_51 : decode cX8_addsCard 51 = .ok (.iaload, 1) := by decide +kernel
theorem dX8_addsCard_52 : decode cX8_addsCard 52 = .ok (.iconst 1, 1) := by decide +kernel
theorem dX8_addsCard_53 : decode cX8_addsCard 53 = .ok (.iadd, 1) := by decide +kernel
theorem dX8_addsCard_54 : decode cX8_addsCard 54 = .ok (.iastore, 1) := by decide +kernel
theorem dX8_addsCard_55 : decode cX8_addsCard 55 = .ok (.return_, 1) := by decide +kernel
theorem dX8_addCard_0 : decode cX8_addCard 0 = .ok (.iload_n 1, 1) := by decide +kernel
theorem dX8_addCard_1 : decode cX8_addCard 1 = .ok (.iconst 0, 1) := by decide +kernel
theorem dX8_addCard_2 : decode cX8_addCard 2 = .ok (.bipush 63, 2) := by decide +kernel
theorem dX8_addCard_4 : decode cX8_addCard 4 = .ok (.invokestatic 40, 3) := by decide +kernel
theorem dX8_addCard_7 : decode cX8_addCard 7 = .ok (.ifCond .ne 6, 3) := by decide +kernel
theorem dX8_addCard_10 : decode cX8_addCard 10 = .ok (.bipush (-2), 2) := by decide +kernel
theorem dX8_addCard_12 : decode cX8_addCard 12 = .ok (.ireturn, 1) := by decide +kernel
theorem dX8_addCard_13 : decode cX8_addCard 13 = .ok (.iconst 0, 1) := by decide +kernel
theorem dX8_addCard_14 : decode cX8_addCard 14 = .ok (.iload_n 2, 1) := by decide +kernel
theorem dX8_addCard_15 : decode cX8_addCard 15 = .ok (.invokestatic 95, 3) := by decide +kernel
theorem dX8_addCard_18 : decode cX8_addCard 18 = .ok (.ifCond .eq 11, 3) := by decide +kernel
theorem dX8_addCard_21 : decode cX8_addCard 21 = .ok (.iconst 1, 1) := by decide +kernel
theorem dX8_addCard_22 : decode cX8_addCard 22 = .ok (.iload_n 3, 1) := by decide +kernel
theorem dX8_addCard_23 : decode cX8_addCard 23 = .ok (.invokestatic 95, 3) := by decide +kernel
theorem dX8_addCard_26 : decode cX8_addCard 26 = .ok (.ifCond .ne 5, 3) := by decide +kernel
theorem dX8_addCard_29 : decode cX8_addCard 29 = .ok (.iconst (-1), 1) := by decide +kernel
theorem dX8_addCard_30 : decode cX8_addCard 30 = .ok (.ireturn, 1) := by decide +kernel
theorem dX8_addCard_31 : decode cX8_addCard 31 = .ok (.aload_n 0, 1) := by decide +kernel
theorem dX8_addCard_32 : decode cX8_addCard 32 = .ok (.getfield 7, 3) := by decide +kernel
theorem dX8_addCard_35 : decode cX8_addCard 35 = .ok (.iconst 0, 1) := by decide +kernel
theorem dX8_addCard_36 : decode cX8_addCard 36 = .ok (.iaload, 1) := by decide +kernel
theorem dX8_addCard_37 : decode cX8_addCard 37 = .ok (.bipush 16, 2) := by decide +kernel
theorem dX8_addCard_39 : decode cX8_addCard 39 = .ok (.if_icmp .ne 6, 3) := by decide +kernel
theorem dX8_addCard_42 : decode cX8_addCard 42 = .ok (.bipush (-4), 2) := by decide +kernel
theorem dX8_addCard_44 : decode cX8_addCard 44 = .ok (.ireturn, 1) := by decide +kernel
theorem dX8_addCard_45 : decode cX8_addCard 45 = .ok (.aload_n 0, 1) := by decide +kernel
theorem dX8_addCard_46 : decode cX8_addCard 46 = .ok (.invokevirtual 99, 3) := by decide +kernel
theorem dX8_addCard_49 : decode cX8_addCard 49 = .ok (.aload_n 0, 1) := by decide +kernel
theorem dX8_addCard_50 : decode cX8_addCard 50 = .ok (.iload_n 1, 1) := by decide +kernel
theorem dX8_addCard_51 : decode cX8_addCard 51 = .ok (.iload_n 2, 1) := by decide +kernel
theorem dX8_addCard_52 : decode cX8_addCard 52 = .ok (.iload_n 3, 1) := by decide +kernel
theorem dX8_addCard_53 : decode cX8_addCard 53 = .ok (.invokevirtual 111, 3) := by decide +kernel
theorem dX8_addCard_56 : decode cX8_addCard 56 = .ok (.aload_n 0, 1) := by decide +kernel
theorem dX8_addCard_57 : decode cX8_addCard 57 = .ok (.getfield 7, 3) := by decide +kernel
theorem dX8_addCard_60 : decode cX8_addCard 60 = .ok (.iconst 0, 1) := by decide +kernel
theorem dX8_addCard_61 : decode cX8_addCard 61 = .ok (.iaload, 1) := by decide +kernel
theorem dX8_addCard_62 : decode cX8_addCard 62 = .ok (.iconst 1, 1) := by decide +kernel
theorem dX8_addCard_63 : decode cX8_addCard 63 = .ok (.isub, 1) := by decide +kernel
theorem dX8_addCard_64 : decode cX8_addCard 64 = .ok (.ireturn, 1) := by decide +kernel
theorem dX8_removeCard_0 : decode cX8_removeCard 0 = .ok (.aload_n 0, 1) := by decide +kernel
theorem dX8_removeCard_1 : decode cX8_removeCard 1 = .ok (.iload_n 1, 1) := by decide +kernel
theorem dX8_removeCard_2 : decode cX8_removeCard 2 = .ok (.invokevirtual 114, 3) := by decide +kernel
theorem dX8_removeCard_5 : decode cX8_removeCard 5 = .ok (.ifCond .ne 5, 3) := by decide +kernel
theorem dX8_removeCard_8 : decode cX8_removeCard 8 = .ok (.iconst (-1), 1) := by decide +kernel
theorem dX8_removeCard_9 : decode cX8_removeCard 9 = .ok (.ireturn, 1) := by decide +kernel
theorem dX8_removeCard_10 : decode cX8_removeCard 10 = .ok (.aload_n 0, 1) := by decide +kernel
theorem dX8_removeCard_11 : decode cX8_removeCard 11 = .ok (.invokevirtual 99, 3) := by decide +kernel
theorem dX8_removeCard_14 : decode cX8_removeCard 14 = .ok (.aload_n 0, 1) := by decide +kernel
theorem dX8_removeCard_15 : decode cX8_removeCard 15 = .ok (.getfield 7, 3) := by decide +kernel
theorem dX8_removeCard_18 : decode cX8_removeCard 18 = .ok (.iconst 0, 1) := by decide +kernel
theorem dX8_removeCard_19 : decode cX8_removeCard 19 = .ok (.dup2, 1) := by decide +kernel
theorem dX8_removeCard_20 : decode cX8_removeCard 20 = .ok (.iaload, 1) := by decide +kernel
theorem dX8_removeCard_21 : decode cX8_removeCard 21 = .ok (.iconst 1, 1) := by decide +kernel
theorem dX8_removeCard_22 : decode cX8_removeCard 22 = .ok (.isub, 1) := by decide +kernel
theorem dX8_removeCard_23 : decode cX8_removeCard 23 = .ok (.iastore, 1) := by decide +kernel
theorem dX8_removeCard_24 : decode cX8_removeCard 24 = .ok (.bipush 56, 2) := by decide +kernel
theorem dX8_removeCard_26 : decode cX8_removeCard 26 = .ok (.iconst 3, 1) := by decide +kernel
theorem dX8_removeCard_27 : decode cX8_removeCard 27 = .ok (.iload_n 1, 1) := by decide +kernel
theorem dX8_removeCard_28 : decode cX8_removeCard 28 = .ok (.imul, 1) := by decide +kernel
theorem dX8_removeCard_29 : decode cX8_removeCard 29 = .ok (.iadd, 1) := by decide +kernel
theorem dX8_removeCard_30 : decode cX8_removeCard 30 = .ok (.istore_n 2, 1) := by decide +kernel
theorem dX8_removeCard_31 : decode cX8_removeCard 31 = .ok (.iload_n 2, 1) := by decide +kernel
theorem dX8_removeCard_32 : decode cX8_removeCard 32 = .ok (.bipush 56, 2) := by decide +kernel
theorem dX8_removeCard_34 : decode cX8_removeCard 34 = .ok (.iconst 3, 1) := by decide +kernel
theorem dX8_removeCard_35 : decode cX8_removeCard 35 = .ok (.aload_n 0, 1) := by decide +kernel
theorem dX8_removeCard_36 : decode cX8_removeCard 36 = .ok (.getfield 7, 3) := by decide +kernel
theorem dX8_removeCard_39 : decode cX8_removeCard 39 = .ok (.iconst 0, 1) := by decide +kernel
theorem dX8_removeCard_40 : decode cX8_removeCard 40 = .ok (.iaload, 1) := by decide +kernel
theorem dX8_removeCard_41 : decode cX8_removeCard 41 = .ok (.imul, 1) := by decide +kernel
theorem dX8_removeCard_42 : decode cX8_removeCard 42 = .ok (.iadd, 1) := by decide +kernel
theorem dX8_removeCard_43 : decode cX8_removeCard 43 = .ok (.if_icmp .ge 23, 3) := by decide +kernel
theorem dX8_removeCard_46 : decode cX8_removeCard 46 = .ok (.aload_n 0, 1) := by decide +kernel
theorem dX8_removeCard_47 : decode cX8_removeCard 47 = .ok (.getfield 7, 3) := by decide +kernel
theorem dX8_removeCard_50 : decode cX8_removeCard 50 = .ok (.iload_n 2, 1) := by decide +kernel
theorem dX8_removeCard_51 : decode cX8_removeCard 51 = .ok (.aload_n 0, 1) := by decide +kernel
theorem dX8_removeCard_52 : decode cX8_removeCard 52 = .ok (.getfield 7, 3) := by decide +kernel
theorem dX8_removeCard_55 : decode cX8_removeCard 55 = .ok (.iload_n 2, 1) := by decide +kernel
theorem dX8_removeCard_56 : decode cX8_removeCard 56 = .ok (.iconst 3, 1) := by decide +kernel
theorem dX8_removeCard_57 : decode cX8_removeCard 57 = .ok (.iadd, 1) := by decide +kernel
theorem dX8_removeCard_58 : decode cX8_removeCard 58 = .ok (.iaload, 1) := by decide +kernel
theorem dX8_removeCard_59 : decode cX8_removeCard 59 = .ok (.iastore, 1) := by decide +kernel
theorem dX8_removeCard_60 : decode cX8_removeCard 60 = .ok (.iinc 2 1, 3) := by decide +kernel
theorem dX8_removeCard_63 : decode cX8_removeCard 63 = .ok (.goto (-32), 3) := by decide +kernel
theorem dX8_removeCard_66 : decode cX8_removeCard 66 = .ok (.iconst 0, 1) := by decide +kernel
theorem dX8_removeCard_67 : decode cX8_removeCard 67 = .ok (.istore_n 2, 1) := by decide +kernel
theorem dX8_removeCard_68 : decode cX8_removeCard 68 = .ok (.iload_n 2, 1) := by decide +kernel
theorem dX8_removeCard_69 : decode cX8_removeCard 69 = .ok (.iconst 3, 1) := by decide +kernel
theorem dX8_removeCard_70 : decode cX8_removeCard 70 = .ok (.if_icmp .ge 28, 3) := by decide +kernel
theorem dX8_removeCard_73 : decode cX8_removeCard 73 = .ok (.aload_n 0, 1) := by decide +kernel
theorem dX8_removeCard_74 : decode cX8_removeCard 74 = .ok (.getfield 7, 3) := by decide +kernel
theorem dX8_removeCard_77 : decode cX8_removeCard 77 = .ok (.bipush 56, 2) := by decide +kernel
theorem dX8_removeCard_79 : decode cX8_removeCard 79 = .ok (.iconst 3, 1) := by decide +kernel
theorem dX8_removeCard_80 : decode cX8_removeCard 80 = .ok (.aload_n 0, 1) := by decide +kernel
theorem dX8_removeCard_81 : decode cX8_removeCard 81 = .ok (.getfield 7, 3) := by decide +kernel
theorem dX8_removeCard_84 : decode cX8_removeCard 84 = .ok (.iconst 0, 1) := by decide +kernel
theorem dX8_removeCard_85 : decode cX8_removeCard 85 = .ok (.iaload, 1) := by decide +kernel
theorem dX8_removeCard_86 : decode cX8_removeCard 86 = .ok (.imul, 1) := by decide +kernel
theorem dX8_removeCard_87 : decode cX8_removeCard 87 = .ok (.iadd, 1) := by decide +kernel
theorem dX8_removeCard_88 : decode cX8_removeCard 88 = .ok (.iload_n 2, 1) := by decide +kernel
theorem dX8_removeCard_89 : decode cX8_removeCard 89 = .ok (.iadd, 1) := by decide +kernel
theorem dX8_removeCard_90 : decode cX8_removeCard 90 = .ok (.iconst 0, 1) := by decide +kernel
theorem dX8_removeCard_91 : decode cX8_removeCard 91 = .ok (.iastore, 1) := by decide +kernel
theorem dX8_removeCard_92 : decode cX8_removeCard 92 = .ok (.iinc 2 1, 3) := by decide +kernel
theorem dX8_removeCard_95 : decode cX8_removeCard 95 = .ok (.goto (-27), 3) := by decide +kernel
theorem dX8_removeCard_98 : decode cX8_removeCard 98 = .ok (.aload_n 0, 1) := by decide +kernel
theorem dX8_removeCard_99 : decode cX8_removeCard 99 = .ok (.getfield 7, 3) := by decide +kernel
theorem dX8_removeCard_102 : decode cX8_removeCard 102 = .ok (.iconst 1, 1) := by decide +kernel
theorem dX8_removeCard_103 : decode cX8_removeCard 103 = .ok (.dup2, 1) := by decide +kernel
theorem dX8_removeCard_104 : decode cX8_removeCard 104 = .ok (.iaload, 1) := by decide +kernel
theorem dX8_removeCard_105 : decode cX8_removeCard 105 = .ok (.iload_n 1, 1) := by decide +kernel
theorem dX8_removeCard_106 : decode cX8_removeCard 106 = .ok (.aload_n 0, 1) := by decide +kernel
theorem dX8_removeCard_107 : decode cX8_removeCard 107 = .ok (.getfield 7, 3) := by decide +kernel
theorem dX8_removeCard_110 : decode cX8_removeCard 110 = .ok (.iconst 1, 1) := by decide +kernel
theorem dX8_removeCard_111 : decode cX8_removeCard 111 = .ok (.iaload, 1) := by decide +kernel
theorem dX8_removeCard_112 : decode cX8_removeCard 112 = .ok (.if_icmp .ge 7, 3) := by decide +kernel
theorem dX8_removeCard_115 : decode cX8_removeCard 115 = .ok (.iconst 1, 1) := by decide +kernel
theorem dX8_removeCard_116 : decode cX8_removeCard 116 = .ok (.goto 4, 3) := by decide +kernel
theorem dX8_removeCard_119 : decode cX8_removeCard 119 = .ok (.iconst 0, 1) := by decide +kernel
theorem dX8_removeCard_120 : decode cX8_removeCard 120 = .ok (.isub, 1) := by decide +kernel
theorem dX8_removeCard_121 : decode cX8_removeCard 121 = .ok (.iastore, 1) := by decide +kernel
theorem dX8_removeCard_122 : decode cX8_removeCard 122 = .ok (.aload_n 0, 1) := by decide +kernel
theorem dX8_removeCard_123 : decode cX8_removeCard 123 = .ok (.getfield 7, 3) := by decide +kernel
theorem dX8_removeCard_126 : decode cX8_removeCard 126 = .ok (.iconst 1, 1) := by decide +kernel
theorem dX8_removeCard_127 : decode cX8_removeCard 127 = .ok (.aload_n 0, 1) := by decide +kernel
theorem dX8_removeCard_128 : decode cX8_removeCard 128 = .ok (.getfield 7, 3) := by decide +kernel
theorem dX8_removeCard_131 : decode cX8_removeCard 131 = .ok (.iconst 1, 1) := by decide +kernel
theorem dX8_removeCard_132 : decode cX8_removeCard 132 = .ok (.iaload, 1) := by decide +kernel
theorem dX8_removeCard_133 : decode cX8_removeCard 133 = .ok (.aload_n 0, 1) := by decide +kernel
theorem dX8_removeCard_134 : decode cX8_removeCard 134 = .ok (.getfield 7, 3) := by decide +kernel
theorem dX8_removeCard_137 : decode cX8_removeCard 137 = .ok (.iconst 0, 1) := by decide +kernel
theorem dX8_removeCard_138 : decode cX8_removeCard 138 = .ok (.iaload, 1) := by decide +kernel
theorem dX8_removeCard_139 : decode cX8_removeCard 139 = .ok (.if_icmp .lt 7, 3) := by decide +kernel
theorem dX8_removeCard_142 : decode cX8_removeCard 142 = .ok (.iconst 0, 1) := by decide +kernel
theorem dX8_removeCard_143 : decode cX8_removeCard 143 = .ok (.goto 9, 3) := by decide +kernel
theorem dX8_removeCard_146 : decode cX8_removeCard 146 = .ok (.aload_n 0, 1) := by decide +kernel
theorem dX8_removeCard_147 : decode cX8_removeCard 147 = .ok (.getfield 7, 3) := by decide +kernel
theorem dX8_removeCard_150 : decode cX8_removeCard 150 = .ok (.iconst 1, 1) := by decide +kernel
theorem dX8_removeCard_151 : decode cX8_removeCard 151 = .ok (.iaload, 1) := by decide +kernel
theorem dX8_removeCard_152 : decode cX8_removeCard 152 = .ok (.iastore, 1) := by decide +kernel
theorem dX8_removeCard_153 : decode cX8_removeCard 153 = .ok (.aload_n 0, 1) := by decide +kernel
theorem dX8_removeCard_154 : decode cX8_removeCard 154 = .ok (.getfield 7, 3) := by decide +kernel
theorem dX8_removeCard_157 : decode cX8_removeCard 157 = .ok (.iconst 0, 1) := by decide +kernel
theorem dX8_removeCard_158 : decode cX8_removeCard 158 = .ok (.iaload, 1) := by decide +kernel
theorem dX8_removeCard_159 : decode cX8_removeCard 159 = .ok (.ireturn, 1) := by decide +kernel
theorem dX8_turnTo_0 : decode cX8_turnTo 0 = .ok (.aload_n 0, 1) := by decide +kernel
theorem dX8_turnTo_1 : decode cX8_turnTo 1 = .ok (.iload_n 1, 1) := by decide +kernel
theorem dX8_turnTo_2 : decode cX8_turnTo 2 = .ok (.invokevirtual 114, 3) := by decide +kernel
theorem dX8_turnTo_5 : decode cX8_turnTo 5 = .ok (.ifCond .eq 12, 3) := by decide +kernel
theorem dX8_turnTo_8 : decode cX8_turnTo 8 = .ok (.aload_n 0, 1) := by decide +kernel
theorem dX8_turnTo_9 : decode cX8_turnTo 9 = .ok (.iconst 1, 1) := by decide +kernel
theorem dX8_turnTo_10 : decode cX8_turnTo 10 = .ok (.iload_n 1, 1) := by decide +kernel
theorem dX8_turnTo_11 : decode cX8_turnTo 11 = .ok (.invokevirtual 105, 3) := by decide +kernel
theorem dX8_turnTo_14 : decode cX8_turnTo 14 = .ok (.goto 4, 3) := by decide +kernel
theorem dX8_turnTo_17 : decode cX8_turnTo 17 = .ok (.iconst (-1), 1) := by decide +kernel
theorem dX8_turnTo_18 : decode cX8_turnTo 18 = .ok (.ireturn, 1) := by decide +kernel
theorem dX8_count_0 : decode cX8_count 0 = .ok (.iload_n 1, 1) := by decide +kernel
theorem dX8_count_1 : decode cX8_count 1 = .ok (.iconst 0, 1) := by decide +kernel
theorem dX8_count_2 : decode cX8_count 2 = .ok (.bipush 11, 2) := by decide +kernel
theorem dX8_count_4 : decode cX8_count 4 = .ok (.invokestatic 40, 3) := by decide +kernel
theorem dX8_count_7 : decode cX8_count 7 = .ok (.ifCond .eq 12, 3) := by decide +kernel
theorem dX8_count_10 : decode cX8_count 10 = .ok (.aload_n 0, 1) := by decide +kernel
theorem dX8_count_11 : decode cX8_count 11 = .ok (.getfield 7, 3) := by decide +kernel
theorem dX8_count_14 : decode cX8_count 14 = .ok (.iload_n 1, 1) := by decide +kernel
theorem dX8_count_15 : decode cX8_count 15 = .ok (.iaload, 1) := by decide +kernel
theorem dX8_count_16 : decode cX8_count 16 = .ok (.goto 5, 3) := by decide +kernel
theorem dX8_count_19 : decode cX8_count 19 = .ok (.bipush (-2), 2) := by decide +kernel
theorem dX8_count_21 : decode cX8_count 21 = .ok (.ireturn, 1) := by decide +kernel
theorem dX8_shuttle_0 : decode cX8_shuttle 0 = .ok (.iload_n 1, 1) := by decide +kernel
theorem dX8_shuttle_1 : decode cX8_shuttle 1 = .ok (.invokestatic 92, 3) := by decide +kernel
theorem dX8_shuttle_4 : decode cX8_shuttle 4 = .ok (.ifCond .ne 5, 3) := by decide +kernel
theorem dX8_shuttle_7 : decode cX8_shuttle 7 = .ok (.iconst (-1), 1) := by decide +kernel
theorem dX8_shuttle_8 : decode cX8_shuttle 8 = .ok (.ireturn, 1) := by decide +kernel
theorem dX8_shuttle_9 : decode cX8_shuttle 9 = .ok (.iload_n 2, 1) := by decide +kernel
theorem dX8_shuttle_10 : decode cX8_shuttle 10 = .ok (.iconst 0, 1) := by decide +kernel
theorem dX8_shuttle_11 : decode cX8_shuttle 11 = .ok (.iconst 3, 1) := by decide +kernel
theorem dX8_shuttle_12 : decode cX8_shuttle 12 = .ok (.invokestatic 40, 3) := by decide +kernel
theorem dX8_shuttle_15 : decode cX8_shuttle 15 = .ok (.ifCond .eq 12, 3) := by decide +kernel
theorem dX8_shuttle_18 : decode cX8_shuttle 18 = .ok (.aload_n 0, 1) := by decide +kernel
theorem dX8_shuttle_19 : decode cX8_shuttle 19 = .ok (.iload_n 1, 1) := by decide +kernel
theorem dX8_shuttle_20 : decode cX8_shuttle 20 = .ok (.iload_n 2, 1) := by decide +kernel
theorem dX8_shuttle_21 : decode cX8_shuttle 21 = .ok (.invokevirtual 44, 3) := by decide +kernel
theorem dX8_shuttle_24 : decode cX8_shuttle 24 = .ok (.goto 5, 3) := by decide +kernel
theorem dX8_shuttle_27 : decode cX8_shuttle 27 = .ok (.bipush (-2), 2) := by decide +kernel
theorem dX8_shuttle_29 : decode cX8_shuttle 29 = .ok (.ireturn, 1) := by decide +kernel
theorem dX8_inBox_0 : decode cX8_inBox 0 = .ok (.iload_n 1, 1) := by decide +kernel
theorem dX8_inBox_1 : decode cX8_inBox 1 = .ok (.iload_n 2, 1) := by decide +kernel
theorem dX8_inBox_2 : decode cX8_inBox 2 = .ok (.invokestatic 95, 3) := by decide +kernel
theorem dX8_inBox_5 : decode cX8_inBox 5 = .ok (.ifCond .eq 12, 3) := by decide +kernel
theorem dX8_inBox_8 : decode cX8_inBox 8 = .ok (.aload_n 0, 1) := by decide +kernel
theorem dX8_inBox_9 : decode cX8_inBox 9 = .ok (.iload_n 1, 1) := by decide +kernel
theorem dX8_inBox_10 : decode cX8_inBox 10 = .ok (.iload_n 2, 1) := by decide +kernel
theorem dX8_inBox_11 : decode cX8_inBox 11 = .ok (.invokevirtual 60, 3) := by decide +kernel
theorem dX8_inBox_14 : decode cX8_inBox 14 = .ok (.goto 4, 3) := by decide +kernel
theorem dX8_inBox_17 : decode cX8_inBox 17 = .ok (.iconst (-1), 1) := by decide +kernel
theorem dX8_inBox_18 : decode cX8_inBox 18 = .ok (.ireturn, 1) := by decide +kernel
theorem dX8_ofThread_0 : decode cX8_ofThread 0 = .ok (.iload_n 2, 1) := by decide +kernel
theorem dX8_ofThread_1 : decode cX8_ofThread 1 = .ok (.iconst 2, 1) := by decide +kernel
theorem dX8_ofThread_2 : decode cX8_ofThread 2 = .ok (.if_icmp .ge 12, 3) := by decide +kernel
theorem dX8_ofThread_5 : decode cX8_ofThread 5 = .ok (.aload_n 0, 1) := by decide +kernel
theorem dX8_ofThread_6 : decode cX8_ofThread 6 = .ok (.iload_n 1, 1) := by decide +kernel
theorem dX8_ofThread_7 : decode cX8_ofThread 7 = .ok (.iload_n 2, 1) := by decide +kernel
theorem dX8_ofThread_8 : decode cX8_ofThread 8 = .ok (.invokevirtual 48, 3) := by decide +kernel
theorem dX8_ofThread_11 : decode cX8_ofThread 11 = .ok (.goto 18, 3) := by decide +kernel
theorem dX8_ofThread_14 : decode cX8_ofThread 14 = .ok (.aload_n 0, 1) := by decide +kernel
theorem dX8_ofThread_15 : decode cX8_ofThread 15 = .ok (.getfield 7, 3) := by decide +kernel
theorem dX8_ofThread_18 : decode cX8_ofThread 18 = .ok (.iconst 5, 1) := by decide +kernel
theorem dX8_ofThread_19 : decode cX8_ofThread 19 = .ok (.iaload, 1) := by decide +kernel
theorem dX8_ofThread_20 : decode cX8_ofThread 20 = .ok (.aload_n 0, 1) := by decide +kernel
theorem dX8_ofThread_21 : decode cX8_ofThread 21 = .ok (.iload_n 1, 1) := by decide +kernel
theorem dX8_ofThread_22 : decode cX8_ofThread 22 = .ok (.iconst 0, 1) := by decide +kernel
theorem dX8_ofThread_23 : decode cX8_ofThread 23 = .ok (.invokevirtual 48, 3) := by decide +kernel
theorem dX8_ofThread_26 : decode cX8_ofThread 26 = .ok (.ishr, 1) := by decide +kernel
theorem dX8_ofThread_27 : decode cX8_ofThread 27 = .ok (.iconst 1, 1) := by decide +kernel
theorem dX8_ofThread_28 : decode cX8_ofThread 28 = .ok (.iand, 1) := by decide +kernel
theorem dX8_ofThread_29 : decode cX8_ofThread 29 = .ok (.ireturn, 1) := by decide +kernel
theorem dX8_thread_0 : decode cX8_thread 0 = .ok (.iload_n 1, 1) := by decide +kernel
theorem dX8_thread_1 : decode cX8_thread 1 = .ok (.invokestatic 108, 3) := by decide +kernel
theorem dX8_thread_4 : decode cX8_thread 4 = .ok (.ifCond .ne 5, 3) := by decide +kernel
theorem dX8_thread_7 : decode cX8_thread 7 = .ok (.iconst (-1), 1) := by decide +kernel
theorem dX8_thread_8 : decode cX8_thread 8 = .ok (.ireturn, 1) := by decide +kernel
theorem dX8_thread_9 : decode cX8_thread 9 = .ok (.iload_n 2, 1) := by decide +kernel
theorem dX8_thread_10 : decode cX8_thread 10 = .ok (.iconst 0, 1) := by decide +kernel
theorem dX8_thread_11 : decode cX8_thread 11 = .ok (.iconst 2, 1) := by decide +kernel
theorem dX8_thread_12 : decode cX8_thread 12 = .ok (.invokestatic 40, 3) := by decide +kernel
theorem dX8_thread_15 : decode cX8_thread 15 = .ok (.ifCond .eq 12, 3) := by decide +kernel
theorem dX8_thread_18 : decode cX8_thread 18 = .ok (.aload_n 0, 1) := by decide +kernel
theorem dX8_thread_19 : decode cX8_thread 19 = .ok (.iload_n 1, 1) := by decide +kernel
theorem dX8_thread_20 : decode cX8_thread 20 = .ok (.iload_n 2, 1) := by decide +kernel
theorem dX8_thread_21 : decode cX8_thread 21 = .ok (.invokevirtual 117, 3) := by decide +kernel
theorem dX8_thread_24 : decode cX8_thread 24 = .ok (.goto 5, 3) := by decide +kernel
theorem dX8_thread_27 : decode cX8_thread 27 = .ok (.bipush (-2), 2) := by decide +kernel
theorem dX8_thread_29 : decode cX8_thread 29 = .ok (.ireturn, 1) := by decide +kernel
theorem dX8_ofCard_0 : decode cX8_ofCard 0 = .ok (.iload_n 2, 1) := by decide +kernel
theorem dX8_ofCard_1 : decode cX8_ofCard 1 = .ok (.iconst 3, 1) := by decide +kernel
theorem dX8_ofCard_2 : decode cX8_ofCard 2 = .ok (.if_icmp .ge 12, 3) := by decide +kernel
theorem dX8_ofCard_5 : decode cX8_ofCard 5 = .ok (.aload_n 0, 1) := by decide +kernel
theorem dX8_ofCard_6 : decode cX8_ofCard 6 = .ok (.iload_n 1, 1) := by decide +kernel
theorem dX8_ofCard_7 : decode cX8_ofCard 7 = .ok (.iload_n 2, 1) := by decide +kernel
theorem dX8_ofCard_8 : decode cX8_ofCard 8 = .ok (.invokevirtual 51, 3) := by decide +kernel
theorem dX8_ofCard_11 : decode cX8_ofCard 11 = .ok (.goto 13, 3) := by decide +kernel
theorem dX8_ofCard_14 : decode cX8_ofCard 14 = .ok (.aload_n 0, 1) := by decide +kernel
theorem dX8_ofCard_15 : decode cX8_ofCard 15 = .ok (.aload_n 0, 1) := by decide +kernel
theorem dX8_ofCard_16 : decode cX8_ofCard 16 = .ok (.iload_n 1, 1) := by decide +kernel
theorem dX8_ofCard_17 : decode cX8_ofCard 17 = .ok (.iconst 0, 1) := by decide +kernel
theorem dX8_ofCard_18 : decode cX8_ofCard 18 = .ok (.invokevirtual 51, 3) := by decide +kernel
theorem dX8_ofCard_21 : decode cX8_ofCard 21 = .ok (.invokevirtual 75, 3) := by decide +kernel
theorem dX8_ofCard_24 : decode cX8_ofCard 24 = .ok (.ireturn, 1) := by decide +kernel
theorem dX8_card_0 : decode cX8_card 0 = .ok (.aload_n 0, 1) := by decide +kernel
theorem dX8_card_1 : decode cX8_card 1 = .ok (.iload_n 1, 1) := by decide +kernel
theorem dX8_card_2 : decode cX8_card 2 = .ok (.invokevirtual 114, 3) := by decide +kernel
theorem dX8_card_5 : decode cX8_card 5 = .ok (.ifCond .ne 5, 3) := by decide +kernel
theorem dX8_card_8 : decode cX8_card 8 = .ok (.iconst (-1), 1) := by decide +kernel
theorem dX8_card_9 : decode cX8_card 9 = .ok (.ireturn, 1) := by decide +kernel
theorem dX8_card_10 : decode cX8_card 10 = .ok (.iload_n 2, 1) := by decide +kernel
theorem dX8_card_11 : decode cX8_card 11 = .ok (.iconst 0, 1) := by decide +kernel
theorem dX8_card_12 : decode cX8_card 12 = .ok (.iconst 3, 1) := by decide +kernel
theorem dX8_card_13 : decode cX8_card 13 = .ok (.invokestatic 40, 3) := by decide +kernel
theorem dX8_card_16 : decode cX8_card 16 = .ok (.ifCond .eq 12, 3) := by decide +kernel
theorem dX8_card_19 : decode cX8_card 19 = .ok (.aload_n 0, 1) := by decide +kernel
theorem dX8_card_20 : decode cX8_card 20 = .ok (.iload_n 1, 1) := by decide +kernel
theorem dX8_card_21 : decode cX8_card 21 = .ok (.iload_n 2, 1) := by decide +kernel
theorem dX8_card_22 : decode cX8_card 22 = .ok (.invokevirtual 120, 3) := by decide +kernel
theorem dX8_card_25 : decode cX8_card 25 = .ok (.goto 5, 3) := by decide +kernel
theorem dX8_card_28 : decode cX8_card 28 = .ok (.bipush (-2), 2) := by decide +kernel
theorem dX8_card_30 : decode cX8_card 30 = .ok (.ireturn, 1) := by decide +kernel
theorem dX8_shown_0 : decode cX8_shown 0 = .ok (.aload_n 0, 1) := by decide +kernel
theorem dX8_shown_1 : decode cX8_shown 1 = .ok (.iload_n 1, 1) := by decide +kernel
theorem dX8_shown_2 : decode cX8_shown 2 = .ok (.iconst 1, 1) := by decide +kernel
theorem dX8_shown_3 : decode cX8_shown 3 = .ok (.invokevirtual 89, 3) := by decide +kernel
theorem dX8_shown_6 : decode cX8_shown 6 = .ok (.iload_n 2, 1) := by decide +kernel
theorem dX8_shown_7 : decode cX8_shown 7 = .ok (.ishr, 1) := by decide +kernel
theorem dX8_shown_8 : decode cX8_shown 8 = .ok (.iconst 1, 1) := by decide +kernel
theorem dX8_shown_9 : decode cX8_shown 9 = .ok (.iand, 1) := by decide +kernel
theorem dX8_shown_10 : decode cX8_shown 10 = .ok (.iconst 1, 1) := by decide +kernel
theorem dX8_shown_11 : decode cX8_shown 11 = .ok (.if_icmp .ne 10, 3) := by decide +kernel
theorem dX8_shown_14 : decode cX8_shown 14 = .ok (.bipush 100, 2) := by decide +kernel
theorem dX8_shown_16 : decode cX8_shown 16 = .ok (.iload_n 2, 1) := by decide +kernel
theorem dX8_shown_17 : decode cX8_shown 17 = .ok (.iadd, 1) := by decide +kernel
theorem dX8_shown_18 : decode cX8_shown 18 = .ok (.goto 9, 3) := by decide +kernel
theorem dX8_shown_21 : decode cX8_shown 21 = .ok (.aload_n 0, 1) := by decide +kernel
theorem dX8_shown_22 : decode cX8_shown 22 = .ok (.iload_n 1, 1) := by decide +kernel
theorem dX8_shown_23 : decode cX8_shown 23 = .ok (.iconst 0, 1) := by decide +kernel
theorem dX8_shown_24 : decode cX8_shown 24 = .ok (.invokevirtual 89, 3) := by decide +kernel
theorem dX8_shown_27 : decode cX8_shown 27 = .ok (.ireturn, 1) := by decide +kernel
theorem dX8_cloth_0 : decode cX8_cloth 0 = .ok (.iload_n 1, 1) := by decide +kernel
theorem dX8_cloth_1 : decode cX8_cloth 1 = .ok (.iconst 0, 1) := by decide +kernel
theorem dX8_cloth_2 : decode cX8_cloth 2 = .ok (.aload_n 0, 1) := by decide +kernel
theorem dX8_cloth_3 : decode cX8_cloth 3 = .ok (.getfield 7, 3) := by decide +kernel
theorem dX8_cloth_6 : decode cX8_cloth 6 = .ok (.bipush 7, 2) := by decide +kernel
theorem dX8_cloth_8 : decode cX8_cloth 8 = .ok (.iaload, 1) := by decide +kernel
theorem dX8_cloth_9 : decode cX8_cloth 9 = .ok (.iconst 1, 1) := by decide +kernel
theorem dX8_cloth_10 : decode cX8_cloth 10 = .ok (.isub, 1) := by decide +kernel
theorem dX8_cloth_11 : decode cX8_cloth 11 = .ok (.invokestatic 40, 3) := by decide +kernel
theorem dX8_cloth_14 : decode cX8_cloth 14 = .ok (.ifCond .eq 19, 3) := by decide +kernel
theorem dX8_cloth_17 : decode cX8_cloth 17 = .ok (.iload_n 2, 1) := by decide +kernel
theorem dX8_cloth_18 : decode cX8_cloth 18 = .ok (.invokestatic 108, 3) := by decide +kernel
theorem dX8_cloth_21 : decode cX8_cloth 21 = .ok (.ifCond .eq 12, 3) := by decide +kernel
theorem dX8_cloth_24 : decode cX8_cloth 24 = .ok (.aload_n 0, 1) := by decide +kernel
theorem dX8_cloth_25 : decode cX8_cloth 25 = .ok (.iload_n 1, 1) := by decide +kernel
theorem dX8_cloth_26 : decode cX8_cloth 26 = .ok (.iload_n 2, 1) := by decide +kernel
theorem dX8_cloth_27 : decode cX8_cloth 27 = .ok (.invokevirtual 123, 3) := by decide +kernel
theorem dX8_cloth_30 : decode cX8_cloth 30 = .ok (.goto 4, 3) := by decide +kernel
theorem dX8_cloth_33 : decode cX8_cloth 33 = .ok (.iconst (-1), 1) := by decide +kernel
theorem dX8_cloth_34 : decode cX8_cloth 34 = .ok (.ireturn, 1) := by decide +kernel
theorem dX8_floatOf_0 : decode cX8_floatOf 0 = .ok (.iconst 0, 1) := by decide +kernel
theorem dX8_floatOf_1 : decode cX8_floatOf 1 = .ok (.istore_n 2, 1) := by decide +kernel
theorem dX8_floatOf_2 : decode cX8_floatOf 2 = .ok (.iconst 0, 1) := by decide +kernel
theorem dX8_floatOf_3 : decode cX8_floatOf 3 = .ok (.istore_n 3, 1) := by decide +kernel
theorem dX8_floatOf_4 : decode cX8_floatOf 4 = .ok (.iconst 0, 1) := by decide +kernel
theorem dX8_floatOf_5 : decode cX8_floatOf 5 = .ok (.istore 4, 2) := by decide +kernel
theorem dX8_floatOf_7 : decode cX8_floatOf 7 = .ok (.iload 4, 2) := by decide +kernel
theorem dX8_floatOf_9 : decode cX8_floatOf 9 = .ok (.aload_n 0, 1) := by decide +kernel
theorem dX8_floatOf_10 : decode cX8_floatOf 10 = .ok (.getfield 7, 3) := by decide +kernel
theorem dX8_floatOf_13 : decode cX8_floatOf 13 = .ok (.bipush 7, 2) := by decide +kernel
theorem dX8_floatOf_15 : decode cX8_floatOf 15 = .ok (.iaload, 1) := by decide +kernel
theorem dX8_floatOf_16 : decode cX8_floatOf 16 = .ok (.if_icmp .ge 72, 3) := by decide +kernel
theorem dX8_floatOf_19 : decode cX8_floatOf 19 = .ok (.iload 4, 2) := by decide +kernel
theorem dX8_floatOf_21 : decode cX8_floatOf 21 = .ok (.ifCond .le 34, 3) := by decide +kernel
theorem dX8_floatOf_24 : decode cX8_floatOf 24 = .ok (.aload_n 0, 1) := by decide +kernel
theorem dX8_floatOf_25 : decode cX8_floatOf 25 = .ok (.iload 4, 2) := by decide +kernel
theorem dX8_floatOf_27 : decode cX8_floatOf 27 = .ok (.iconst 1, 1) := by decide +kernel
theorem dX8_floatOf_28 : decode cX8_floatOf 28 = .ok (.invokevirtual 89, 3) := by decide +kernel
theorem dX8_floatOf_31 : decode cX8_floatOf 31 = .ok (.iload_n 1, 1) := by decide +kernel
theorem dX8_floatOf_32 : decode cX8_floatOf 32 = .ok (.ishr, 1) := by decide +kernel
theorem dX8_floatOf_33 : decode cX8_floatOf 33 = .ok (.iconst 1, 1) := by decide +kernel
theorem dX8_floatOf_34 : decode cX8_floatOf 34 = .ok (.iand, 1) := by decide +kernel
theorem dX8_floatOf_35 : decode cX8_floatOf 35 = .ok (.aload_n 0, 1) := by decide +kernel
theorem dX8_floatOf_36 : decode cX8_floatOf 36 = .ok (.iload 4, 2) := by decide +kernel
theorem dX8_floatOf_38 : decode cX8_floatOf 38 = .ok (.iconst 1, 1) := by decide +kernel
theorem dX8_floatOf_39 : decode cX8_floatOf 39 = .ok (.isub, 1) := by decide +kernel
theorem dX8_floatOf_40 : decode cX8_floatOf 40 = .ok (.iconst 1, 1) := by decide +kernel
theorem dX8_floatOf_41 : decode cX8_floatOf 41 = .ok (.invokevirtual 89, 3) := by decide +kernel
theorem dX8_floatOf_44 : decode cX8_floatOf 44 = .ok (.iload_n 1, 1) := by decide +kernel
theorem dX8_floatOf_45 : decode cX8_floatOf 45 = .ok (.ishr, 1) := by decide +kernel
theorem dX8_floatOf_46 : decode cX8_floatOf 46 = .ok (.iconst 1, 1) := by decide +kernel
theorem dX8_floatOf_47 : decode cX8_floatOf 47 = .ok (.iand, 1) := by decide +kernel
theorem dX8_floatOf_48 : decode cX8_floatOf 48 = .ok (.if_icmp .ne 7, 3) := by decide +kernel
theorem dX8_floatOf_51 : decode cX8_floatOf 51 = .ok (.iconst 1, 1) := by decide +kernel
theorem dX8_floatOf_52 : decode cX8_floatOf 52 = .ok (.goto 4, 3) := by decide +kernel
theorem dX8_floatOf_55 : decode cX8_floatOf 55 = .ok (.iconst 0, 1) := by decide +kernel
theorem dX8_floatOf_56 : decode cX8_floatOf 56 = .ok (.istore 5, 2) := by decide +kernel
theorem dX8_floatOf_58 : decode cX8_floatOf 58 = .ok (.iload 5, 2) := by decide +kernel
theorem dX8_floatOf_60 : decode cX8_floatOf 60 = .ok (.ifCond .eq 9, 3) := by decide +kernel
theorem dX8_floatOf_63 : decode cX8_floatOf 63 = .ok (.iload_n 3, 1) := by decide +kernel
theorem dX8_floatOf_64 : decode cX8_floatOf 64 = .ok (.iconst 1, 1) := by decide +kernel
theorem dX8_floatOf_65 : decode cX8_floatOf 65 = .ok (.iadd, 1) := by decide +kernel
theorem dX8_floatOf_66 : decode cX8_floatOf 66 = .ok (.goto 4, 3) := by decide +kernel
theorem dX8_floatOf_69 : decode cX8_floatOf 69 = .ok (.iconst 1, 1) := by decide +kernel
theorem dX8_floatOf_70 : decode cX8_floatOf 70 = .ok (.istore_n 3, 1) := by decide +kernel
theorem dX8_floatOf_71 : decode cX8_floatOf 71 = .ok (.iload_n 3, 1) := by decide +kernel
theorem dX8_floatOf_72 : decode cX8_floatOf 72 = .ok (.iload_n 2, 1) := by decide +kernel
theorem dX8_floatOf_73 : decode cX8_floatOf 73 = .ok (.if_icmp .le 7, 3) := by decide +kernel
theorem dX8_floatOf_76 : decode cX8_floatOf 76 = .ok (.iload_n 3, 1) := by decide +kernel
theorem dX8_floatOf_77 : decode cX8_floatOf 77 = .ok (.goto 4, 3) := by decide +kernel
theorem dX8_floatOf_80 : decode cX8_floatOf 80 = .ok (.iload_n 2, 1) := by decide +kernel
theorem dX8_floatOf_81 : decode cX8_floatOf 81 = .ok (.istore_n 2, 1) := by decide +kernel
theorem dX8_floatOf_82 : decode cX8_floatOf 82 = .ok (.iinc 4 1, 3) := by decide +kernel
theorem dX8_floatOf_85 : decode cX8_floatOf 85 = .ok (.goto (-78), 3) := by decide +kernel
theorem dX8_floatOf_88 : decode cX8_floatOf 88 = .ok (.iload_n 2, 1) := by decide +kernel
theorem dX8_floatOf_89 : decode cX8_floatOf 89 = .ok (.ireturn, 1) := by decide +kernel
theorem dX8_longestFloat_0 : decode cX8_longestFloat 0 = .ok (.iload_n 1, 1) := by decide +kernel
theorem dX8_longestFloat_1 : decode cX8_longestFloat 1 = .ok (.invokestatic 108, 3) := by decide +kernel
theorem dX8_longestFloat_4 : decode cX8_longestFloat 4 = .ok (.ifCond .eq 11, 3) := by decide +kernel
theorem dX8_longestFloat_7 : decode cX8_longestFloat 7 = .ok (.aload_n 0, 1) := by decide +kernel
theorem dX8_longestFloat_8 : decode cX8_longestFloat 8 = .ok (.iload_n 1, 1) := by decide +kernel
theorem dX8_longestFloat_9 : decode cX8_longestFloat 9 = .ok (.invokevirtual 126, 3) := by decide +kernel
theorem dX8_longestFloat_12 : decode cX8_longestFloat 12 = .ok (.goto 4, 3) := by decide +kernel
theorem dX8_longestFloat_15 : decode cX8_longestFloat 15 = .ok (.iconst (-1), 1) := by decide +kernel
theorem dX8_longestFloat_16 : decode cX8_longestFloat 16 = .ok (.ireturn, 1) := by decide +kernel
theorem dX8_nextReason_0 : decode cX8_nextReason 0 = .ok (.aload_n 0, 1) := by decide +kernel
theorem dX8_nextReason_1 : decode cX8_nextReason 1 = .ok (.iconst 1, 1) := by decide +kernel
theorem dX8_nextReason_2 : decode cX8_nextReason 2 = .ok (.invokevirtual 79, 3) := by decide +kernel
theorem dX8_nextReason_5 : decode cX8_nextReason 5 = .ok (.aload_n 0, 1) := by decide +kernel
theorem dX8_nextReason_6 : decode cX8_nextReason 6 = .ok (.getfield 54, 3) := by decide +kernel
theorem dX8_nextReason_9 : decode cX8_nextReason 9 = .ok (.ireturn, 1) := by decide +kernel
theorem dX8_whyNot_0 : decode cX8_whyNot 0 = .ok (.aload_n 0, 1) := by decide +kernel
theorem dX8_whyNot_1 : decode cX8_whyNot 1 = .ok (.invokevirtual 129, 3) := by decide +kernel
theorem dX8_whyNot_4 : decode cX8_whyNot 4 = .ok (.ireturn, 1) := by decide +kernel
theorem dX8_left_0 : decode cX8_left 0 = .ok (.aload_n 0, 1) := by decide +kernel
theorem dX8_left_1 : decode cX8_left 1 = .ok (.getfield 7, 3) := by decide +kernel
theorem dX8_left_4 : decode cX8_left 4 = .ok (.iconst 0, 1) := by decide +kernel
theorem dX8_left_5 : decode cX8_left 5 = .ok (.aload_n 0, 1) := by decide +kernel
theorem dX8_left_6 : decode cX8_left 6 = .ok (.getfield 13, 3) := by decide +kernel
theorem dX8_left_9 : decode cX8_left 9 = .ok (.iconst 0, 1) := by decide +kernel
theorem dX8_left_10 : decode cX8_left 10 = .ok (.invokestatic 33, 3) := by decide +kernel
theorem dX8_left_13 : decode cX8_left 13 = .ok (.iconst 0, 1) := by decide +kernel
theorem dX8_left_14 : decode cX8_left 14 = .ok (.istore_n 1, 1) := by decide +kernel
theorem dX8_left_15 : decode cX8_left 15 = .ok (.aload_n 0, 1) := by decide +kernel
theorem dX8_left_16 : decode cX8_left 16 = .ok (.iconst 1, 1) := by decide +kernel
theorem dX8_left_17 : decode cX8_left 17 = .ok (.invokevirtual 79, 3) := by decide +kernel
theorem dX8_left_20 : decode cX8_left 20 = .ok (.iload_n 1, 1) := by decide +kernel
theorem dX8_left_21 : decode cX8_left 21 = .ok (.sipush 200, 3) := by decide +kernel
theorem dX8_left_24 : decode cX8_left 24 = .ok (.if_icmp .ge 25, 3) := by decide +kernel
theorem dX8_left_27 : decode cX8_left 27 = .ok (.aload_n 0, 1) := by decide +kernel
theorem dX8_left_28 : decode cX8_left 28 = .ok (.getfield 54, 3) := by decide +kernel
theorem dX8_left_31 : decode cX8_left 31 = .ok (.ifCond .ne 18, 3) := by decide +kernel
theorem dX8_left_34 : decode cX8_left 34 = .ok (.aload_n 0, 1) := by decide +kernel
theorem dX8_left_35 : decode cX8_left 35 = .ok (.invokevirtual 86, 3) := by decide +kernel
theorem dX8_left_38 : decode cX8_left 38 = .ok (.iinc 1 1, 3) := by decide +kernel
theorem dX8_left_41 : decode cX8_left 41 = .ok (.aload_n 0, 1) := by decide +kernel
theorem dX8_left_42 : decode cX8_left 42 = .ok (.iconst 1, 1) := by decide +kernel
theorem dX8_left_43 : decode cX8_left 43 = .ok (.invokevirtual 79, 3) := by decide +kernel
theorem dX8_left_46 : decode cX8_left 46 = .ok (.goto (-26), 3) := by decide +kernel
theorem dX8_left_49 : decode cX8_left 49 = .ok (.aload_n 0, 1) := by decide +kernel
theorem dX8_left_50 : decode cX8_left 50 = .ok (.getfield 13, 3) := by decide +kernel
theorem dX8_left_53 : decode cX8_left 53 = .ok (.iconst 0, 1) := by decide +kernel
theorem dX8_left_54 : decode cX8_left 54 = .ok (.aload_n 0, 1) := by decide +kernel
theorem dX8_left_55 : decode cX8_left 55 = .ok (.getfield 7, 3) := by decide +kernel
theorem dX8_left_58 : decode cX8_left 58 = .ok (.iconst 0, 1) := by decide +kernel
theorem dX8_left_59 : decode cX8_left 59 = .ok (.invokestatic 33, 3) := by decide +kernel
theorem dX8_left_62 : decode cX8_left 62 = .ok (.iload_n 1, 1) := by decide +kernel
theorem dX8_left_63 : decode cX8_left 63 = .ok (.ireturn, 1) := by decide +kernel
theorem dX8_picksLeft_0 : decode cX8_picksLeft 0 = .ok (.aload_n 0, 1) := by decide +kernel
theorem dX8_picksLeft_1 : decode cX8_picksLeft 1 = .ok (.invokevirtual 132, 3) := by decide +kernel
theorem dX8_picksLeft_4 : decode cX8_picksLeft 4 = .ok (.ireturn, 1) := by decide +kernel
theorem dX8_emptyOne_0 : decode cX8_emptyOne 0 = .ok (.aload_n 0, 1) := by decide +kernel
theorem dX8_emptyOne_1 : decode cX8_emptyOne 1 = .ok (.getfield 7, 3) := by decide +kernel
theorem dX8_emptyOne_4 : decode cX8_emptyOne 4 = .ok (.iconst 0, 1) := by decide +kernel
theorem dX8_emptyOne_5 : decode cX8_emptyOne 5 = .ok (.aload_n 0, 1) := by decide +kernel
theorem dX8_emptyOne_6 : decode cX8_emptyOne 6 = .ok (.getfield 13, 3) := by decide +kernel
theorem dX8_emptyOne_9 : decode cX8_emptyOne 9 = .ok (.iconst 0, 1) := by decide +kernel
theorem dX8_emptyOne_10 : decode cX8_emptyOne 10 = .ok (.invokestatic 33, 3) := by decide +kernel
theorem dX8_emptyOne_13 : decode cX8_emptyOne 13 = .ok (.iconst 0, 1) := by decide +kernel
theorem dX8_emptyOne_14 : decode cX8_emptyOne 14 = .ok (.istore_n 1, 1) := by decide +kernel
theorem dX8_emptyOne_15 : decode cX8_emptyOne 15 = .ok (.aload_n 0, 1) := by decide +kernel
theorem dX8_emptyOne_16 : decode cX8_emptyOne 16 = .ok (.iconst 0, 1) := by decide +kernel
theorem dX8_emptyOne_17 : decode cX8_emptyOne 17 = .ok (.invokevirtual 79, 3) := by decide +kernel
theorem dX8_emptyOne_20 : decode cX8_emptyOne 20 = .ok (.iload_n 1, 1) := by decide +kernel
theorem dX8_emptyOne_21 : decode cX8_emptyOne 21 = .ok (.sipush 999, 3) := by decide +kernel
theorem dX8_emptyOne_24 : decode cX8_emptyOne 24 = .ok (.if_icmp .ge 25, 3) := by decide +kernel
theorem dX8_emptyOne_27 : decode cX8_emptyOne 27 = .ok (.aload_n 0, 1) := by decide +kernel
theorem dX8_emptyOne_28 : decode cX8_emptyOne 28 = .ok (.getfield 54, 3) := by decide +kernel
theorem dX8_emptyOne_31 : decode cX8_emptyOne 31 = .ok (.ifCond .ne 18, 3) := by decide +kernel
theorem dX8_emptyOne_34 : decode cX8_emptyOne 34 = .ok (.aload_n 0, 1) := by decide +kernel
theorem dX8_emptyOne_35 : decode cX8_emptyOne 35 = .ok (.invokevirtual 86, 3) := by decide +kernel
theorem dX8_emptyOne_38 : decode cX8_emptyOne 38 = .ok (.iinc 1 1, 3) := by decide +kernel
theorem dX8_emptyOne_41 : decode cX8_emptyOne 41 = .ok (.aload_n 0, 1) := by decide +kernel
theorem dX8_emptyOne_42 : decode cX8_emptyOne 42 = .ok (.iconst 0, 1) := by decide +kernel
theorem dX8_emptyOne_43 : decode cX8_emptyOne 43 = .ok (.invokevirtual 79, 3) := by decide +kernel
theorem dX8_emptyOne_46 : decode cX8_emptyOne 46 = .ok (.goto (-26), 3) := by decide +kernel
theorem dX8_emptyOne_49 : decode cX8_emptyOne 49 = .ok (.aload_n 0, 1) := by decide +kernel
theorem dX8_emptyOne_50 : decode cX8_emptyOne 50 = .ok (.getfield 13, 3) := by decide +kernel
theorem dX8_emptyOne_53 : decode cX8_emptyOne 53 = .ok (.iconst 0, 1) := by decide +kernel
theorem dX8_emptyOne_54 : decode cX8_emptyOne 54 = .ok (.aload_n 0, 1) := by decide +kernel
theorem dX8_emptyOne_55 : decode cX8_emptyOne 55 = .ok (.getfield 7, 3) := by decide +kernel
theorem dX8_emptyOne_58 : decode cX8_emptyOne 58 = .ok (.iconst 0, 1) := by decide +kernel
theorem dX8_emptyOne_59 : decode cX8_emptyOne 59 = .ok (.invokestatic 33, 3) := by decide +kernel
theorem dX8_emptyOne_62 : decode cX8_emptyOne 62 = .ok (.iload_n 1, 1) := by decide +kernel
theorem dX8_emptyOne_63 : decode cX8_emptyOne 63 = .ok (.sipush 999, 3) := by decide +kernel
theorem dX8_emptyOne_66 : decode cX8_emptyOne 66 = .ok (.if_icmp .ge 19, 3) := by decide +kernel
theorem dX8_emptyOne_69 : decode cX8_emptyOne 69 = .ok (.aload_n 0, 1) := by decide +kernel
theorem dX8_emptyOne_70 : decode cX8_emptyOne 70 = .ok (.getfield 54, 3) := by decide +kernel
theorem dX8_emptyOne_73 : decode cX8_emptyOne 73 = .ok (.bipush 6, 2) := by decide +kernel
theorem dX8_emptyOne_75 : decode cX8_emptyOne 75 = .ok (.if_icmp .ne 10, 3) := by decide +kernel
theorem dX8_emptyOne_78 : decode cX8_emptyOne 78 = .ok (.aload_n 0, 1) := by decide +kernel
theorem dX8_emptyOne_79 : decode cX8_emptyOne 79 = .ok (.getfield 57, 3) := by decide +kernel
theorem dX8_emptyOne_82 : decode cX8_emptyOne 82 = .ok (.goto 5, 3) := by decide +kernel
theorem dX8_emptyOne_85 : decode cX8_emptyOne 85 = .ok (.bipush (-6), 2) := by decide +kernel
theorem dX8_emptyOne_87 : decode cX8_emptyOne 87 = .ok (.ireturn, 1) := by decide +kernel
theorem dX8_firstEmpty_0 : decode cX8_firstEmpty 0 = .ok (.aload_n 0, 1) := by decide +kernel
theorem dX8_firstEmpty_1 : decode cX8_firstEmpty 1 = .ok (.invokevirtual 135, 3) := by decide +kernel
theorem dX8_firstEmpty_4 : decode cX8_firstEmpty 4 = .ok (.ireturn, 1) := by decide +kernel
theorem dX8_isRepeating_0 : decode cX8_isRepeating 0 = .ok (.aload_n 0, 1) := by decide +kernel
theorem dX8_isRepeating_1 : decode cX8_isRepeating 1 = .ok (.getfield 7, 3) := by decide +kernel
theorem dX8_isRepeating_4 : decode cX8_isRepeating 4 = .ok (.iconst 0, 1) := by decide +kernel
theorem dX8_isRepeating_5 : decode cX8_isRepeating 5 = .ok (.aload_n 0, 1) := by decide +kernel
theorem dX8_isRepeating_6 : decode cX8_isRepeating 6 = .ok (.getfield 13, 3) := by decide +kernel
theorem dX8_isRepeating_9 : decode cX8_isRepeating 9 = .ok (.iconst 0, 1) := by decide +kernel
theorem dX8_isRepeating_10 : decode cX8_isRepeating 10 = .ok (.invokestatic 33, 3) := by decide +kernel
theorem dX8_isRepeating_13 : decode cX8_isRepeating 13 = .ok (.aload_n 0, 1) := by decide +kernel
theorem dX8_isRepeating_14 : decode cX8_isRepeating 14 = .ok (.getfield 7, 3) := by decide +kernel
theorem dX8_isRepeating_17 : decode cX8_isRepeating 17 = .ok (.iconst 1, 1) := by decide +kernel
theorem dX8_isRepeating_18 : decode cX8_isRepeating 18 = .ok (.iconst 0, 1) := by decide +kernel
theorem dX8_isRepeating_19 : decode cX8_isRepeating 19 = .ok (.iastore, 1) := by decide +kernel
theorem dX8_isRepeating_20 : decode cX8_isRepeating 20 = .ok (.aload_n 0, 1) := by decide +kernel
theorem dX8_isRepeating_21 : decode cX8_isRepeating 21 = .ok (.getfield 7, 3) := by decide +kernel
theorem dX8_isRepeating_24 : decode cX8_isRepeating 24 = .ok (.iconst 0, 1) := by decide +kernel
theorem dX8_isRepeating_25 : decode cX8_isRepeating 25 = .ok (.iaload, 1) := by decide +kernel
theorem dX8_isRepeating_26 : decode cX8_isRepeating 26 = .ok (.ifCond .le 7, 3) := by decide +kernel
theorem dX8_isRepeating_29 : decode cX8_isRepeating 29 = .ok (.iconst 1, 1) := by decide +kernel
theorem dX8_isRepeating_30 : decode cX8_isRepeating 30 = .ok (.goto 4, 3) := by decide +kernel
theorem dX8_isRepeating_33 : decode cX8_isRepeating 33 = .ok (.iconst 0, 1) := by decide +kernel
theorem dX8_isRepeating_34 : decode cX8_isRepeating 34 = .ok (.istore_n 1, 1) := by decide +kernel
theorem dX8_isRepeating_35 : decode cX8_isRepeating 35 = .ok (.iconst 0, 1) := by decide +kernel
theorem dX8_isRepeating_36 : decode cX8_isRepeating 36 = .ok (.istore_n 2, 1) := by decide +kernel
theorem dX8_isRepeating_37 : decode cX8_isRepeating 37 = .ok (.iload_n 2, 1) := by decide +kernel
theorem dX8_isRepeating_38 : decode cX8_isRepeating 38 = .ok (.aload_n 0, 1) := by decide +kernel
theorem dX8_isRepeating_39 : decode cX8_isRepeating 39 = .ok (.getfield 7, 3) := by decide +kernel
theorem dX8_isRepeating_42 : decode cX8_isRepeating 42 = .ok (.iconst 0, 1) := by decide +kernel
theorem dX8_isRepeating_43 : decode cX8_isRepeating 43 = .ok (.iaload, 1) := by decide +kernel
theorem dX8_isRepeating_44 : decode cX8_isRepeating 44 = .ok (.if_icmp .ge 39, 3) := by decide +kernel
theorem dX8_isRepeating_47 : decode cX8_isRepeating 47 = .ok (.iload_n 1, 1) := by decide +kernel
theorem dX8_isRepeating_48 : decode cX8_isRepeating 48 = .ok (.ifCond .eq 35, 3) := by decide +kernel
theorem dX8_isRepeating_51 : decode cX8_isRepeating 51 = .ok (.aload_n 0, 1) := by decide +kernel
theorem dX8_isRepeating_52 : decode cX8_isRepeating 52 = .ok (.iconst 1, 1) := by decide +kernel
theorem dX8_isRepeating_53 : decode cX8_isRepeating 53 = .ok (.invokevirtual 79, 3) := by decide +kernel
theorem dX8_isRepeating_56 : decode cX8_isRepeating 56 = .ok (.aload_n 0, 1) := by decide +kernel
theorem dX8_isRepeating_57 : decode cX8_isRepeating 57 = .ok (.getfield 54, 3) := by decide +kernel
theorem dX8_isRepeating_60 : decode cX8_isRepeating 60 = .ok (.ifCond .ne 7, 3) := by decide +kernel
theorem dX8_isRepeating_63 : decode cX8_isRepeating 63 = .ok (.iconst 1, 1) := by decide +kernel
theorem dX8_isRepeating_64 : decode cX8_isRepeating 64 = .ok (.goto 4, 3) := by decide +kernel
theorem dX8_isRepeating_67 : decode cX8_isRepeating 67 = .ok (.iconst 0, 1) := by decide +kernel
theorem dX8_isRepeating_68 : decode cX8_isRepeating 68 = .ok (.istore_n 1, 1) := by decide +kernel
theorem dX8_isRepeating_69 : decode cX8_isRepeating 69 = .ok (.iload_n 1, 1) := by decide +kernel
theorem dX8_isRepeating_70 : decode cX8_isRepeating 70 = .ok (.ifCond .eq 7, 3) := by decide +kernel
theorem dX8_isRepeating_73 : decode cX8_isRepeating 73 = .ok (.aload_n 0, 1) := by decide +kernel
theorem dX8_isRepeating_74 : decode cX8_isRepeating 74 = .ok (.invokevirtual 86, 3) := by decide +kernel
theorem dX8_isRepeating_77 : decode cX8_isRepeating 77 = .ok (.iinc 2 1, 3) := by decide +kernel
theorem dX8_isRepeating_80 : decode cX8_isRepeating 80 = .ok (.goto (-43), 3) := by decide +kernel
theorem dX8_isRepeating_83 : decode cX8_isRepeating 83 = .ok (.iconst 0, 1) := by decide +kernel
theorem dX8_isRepeating_84 : decode cX8_isRepeating 84 = .ok (.istore_n 2, 1) := by decide +kernel
theorem dX8_isRepeating_85 : decode cX8_isRepeating 85 = .ok (.iload_n 2, 1) := by decide +kernel
theorem dX8_isRepeating_86 : decode cX8_isRepeating 86 = .ok (.iconst 5, 1) := by decide +kernel
theorem dX8_isRepeating_87 : decode cX8_isRepeating 87 = .ok (.if_icmp .ge 63, 3) := by decide +kernel
theorem dX8_isRepeating_90 : decode cX8_isRepeating 90 = .ok (.iload_n 1, 1) := by decide +kernel
theorem dX8_isRepeating_91 : decode cX8_isRepeating 91 = .ok (.ifCond .eq 51, 3) := by decide +kernel
theorem dX8_isRepeating_94 : decode cX8_isRepeating 94 = .ok (.aload_n 0, 1) := by decide +kernel
theorem dX8_isRepeating_95 : decode cX8_isRepeating 95 = .ok (.iload_n 2, 1) := by decide +kernel
theorem dX8_isRepeating_96 : decode cX8_isRepeating 96 = .ok (.iconst 2, 1) := by decide +kernel
theorem dX8_isRepeating_97 : decode cX8_isRepeating 97 = .ok (.invokevirtual 44, 3) := by decide +kernel
theorem dX8_isRepeating_100 : decode cX8_isRepeating 100 = .ok (.aload_n 0, 1) := by decide +kernel
theorem dX8_isRepeating_101 : decode cX8_isRepeating 101 = .ok (.getfield 13, 3) := by decide +kernel
theorem dX8_isRepeating_104 : decode cX8_isRepeating 104 = .ok (.bipush 12, 2) := by decide +kernel
theorem dX8_isRepeating_106 : decode cX8_isRepeating 106 = .ok (.iconst 4, 1) := by decide +kernel
theorem dX8_isRepeating_107 : decode cX8_isRepeating 107 = .ok (.iload_n 2, 1) := by decide +kernel
theorem dX8_isRepeating_108 : decode cX8_isRepeating 108 = .ok (.imul, 1) := by decide +kernel
theorem dX8_isRepeating_109 : decode cX8_isRepeating 109 = .ok (.iadd, 1) := by decide +kernel
theorem dX8_isRepeating_110 : decode cX8_isRepeating 110 = .ok (.iconst 2, 1) := by decide +kernel
theorem dX8_isRepeating_111 : decode cX8_isRepeating 111 = .ok (.iadd, 1) := by decide +kernel
theorem dX8_isRepeating_112 : decode cX8_isRepeating 112 = .ok (.iaload, 1) := by decide +kernel
theorem dX8_isRepeating_113 : decode cX8_isRepeating 113 = .ok (.if_icmp .ne 29, 3) := by decide +kernel
theorem dX8_isRepeating_116 : decode cX8_isRepeating 116 = .ok (.aload_n 0, 1) := by decide +kernel
theorem dX8_isRepeating_117 : decode cX8_isRepeating 117 = .ok (.iload_n 2, 1) := by decide +kernel
theorem dX8_isRepeating_118 : decode cX8_isRepeating 118 = .ok (.iconst 3, 1) := by decide +kernel
theorem dX8_isRepeating_119 : decode cX8_isRepeating 119 = .ok (.invokevirtual 44, 3) := by decide +kernel
theorem dX8_isRepeating_122 : decode cX8_isRepeating 122 = .ok (.aload_n 0, 1) := by decide +kernel
theorem dX8_isRepeating_123 : decode cX8_isRepeating 123 = .ok (.getfield 13, 3) := by decide +kernel
theorem dX8_isRepeating_126 : decode cX8_isRepeating 126 = .ok (.bipush 12, 2) := by decide +kernel
theorem dX8_isRepeating_128 : decode cX8_isRepeating 128 = .ok (.iconst 4, 1) := by decide +kernel
theorem dX8_isRepeating_129 : decode cX8_isRepeating 129 = .ok (.iload_n 2, 1) := by decide +kernel
theorem dX8_isRepeating_130 : decode cX8_isRepeating 130 = .ok (.imul, 1) := by decide +kernel
theorem dX8_isRepeating_131 : decode cX8_isRepeating 131 = .ok (.iadd, 1) := by decide +kernel
theorem dX8_isRepeating_132 : decode cX8_isRepeating 132 = .ok (.iconst 3, 1) := by decide +kernel
theorem dX8_isRepeating_133 : decode cX8_isRepeating 133 = .ok (.iadd, 1) := by decide +kernel
theorem dX8_isRepeating_134 : decode cX8_isRepeating 134 = .ok (.iaload, 1) := by decide +kernel
theorem dX8_isRepeating_135 : decode cX8_isRepeating 135 = .ok (.if_icmp .ne 7, 3) := by decide +kernel
theorem dX8_isRepeating_138 : decode cX8_isRepeating 138 = .ok (.iconst 1, 1) := by decide +kernel
theorem dX8_isRepeating_139 : decode cX8_isRepeating 139 = .ok (.goto 4, 3) := by decide +kernel
theorem dX8_isRepeating_142 : decode cX8_isRepeating 142 = .ok (.iconst 0, 1) := by decide +kernel
theorem dX8_isRepeating_143 : decode cX8_isRepeating 143 = .ok (.istore_n 1, 1) := by decide +kernel
theorem dX8_isRepeating_144 : decode cX8_isRepeating 144 = .ok (.iinc 2 1, 3) := by decide +kernel
theorem dX8_isRepeating_147 : decode cX8_isRepeating 147 = .ok (.goto (-62), 3) := by decide +kernel
theorem dX8_isRepeating_150 : decode cX8_isRepeating 150 = .ok (.aload_n 0, 1) := by decide +kernel
theorem dX8_isRepeating_151 : decode cX8_isRepeating 151 = .ok (.getfield 13, 3) := by decide +kernel
theorem dX8_isRepeating_154 : decode cX8_isRepeating 154 = .ok (.iconst 0, 1) := by decide +kernel
theorem dX8_isRepeating_155 : decode cX8_isRepeating 155 = .ok (.aload_n 0, 1) := by decide +kernel
theorem dX8_isRepeating_156 : decode cX8_isRepeating 156 = .ok (.getfield 7, 3) := by decide +kernel
theorem dX8_isRepeating_159 : decode cX8_isRepeating 159 = .ok (.iconst 0, 1) := by decide +kernel
theorem dX8_isRepeating_160 : decode cX8_isRepeating 160 = .ok (.invokestatic 33, 3) := by decide +kernel
theorem dX8_isRepeating_163 : decode cX8_isRepeating 163 = .ok (.iload_n 1, 1) := by decide +kernel
theorem dX8_isRepeating_164 : decode cX8_isRepeating 164 = .ok (.ifCond .eq 7, 3) := by decide +kernel
theorem dX8_isRepeating_167 : decode cX8_isRepeating 167 = .ok (.iconst 1, 1) := by decide +kernel
theorem dX8_isRepeating_168 : decode cX8_isRepeating 168 = .ok (.goto 4, 3) := by decide +kernel
theorem dX8_isRepeating_171 : decode cX8_isRepeating 171 = .ok (.iconst 0, 1) := by decide +kernel
theorem dX8_isRepeating_172 : decode cX8_isRepeating 172 = .ok (.ireturn, 1) := by decide +kernel
theorem dX8_repeats_0 : decode cX8_repeats 0 = .ok (.aload_n 0, 1) := by decide +kernel
theorem dX8_repeats_1 : decode cX8_repeats 1 = .ok (.invokevirtual 138, 3) := by decide +kernel
theorem dX8_repeats_4 : decode cX8_repeats 4 = .ok (.ireturn, 1) := by decide +kernel
theorem dX8_type_0 : decode cX8_type 0 = .ok (.iload_n 1, 1) := by decide +kernel
theorem dX8_type_1 : decode cX8_type 1 = .ok (.bipush 33, 2) := by decide +kernel
theorem dX8_type_3 : decode cX8_type 3 = .ok (.bipush 126, 2) := by decide +kernel
theorem dX8_type_5 : decode cX8_type 5 = .ok (.invokestatic 40, 3) := by decide +kernel
theorem dX8_type_8 : decode cX8_type 8 = .ok (.ifCond .ne 6, 3) := by decide +kernel
theorem dX8_type_11 : decode cX8_type 11 = .ok (.bipush (-2), 2) := by decide +kernel
theorem dX8_type_13 : decode cX8_type 13 = .ok (.ireturn, 1) := by decide +kernel
theorem dX8_type_14 : decode cX8_type 14 = .ok (.aload_n 0, 1) := by decide +kernel
theorem dX8_type_15 : decode cX8_type 15 = .ok (.getfield 141, 3) := by decide +kernel
theorem dX8_type_18 : decode cX8_type 18 = .ok (.bipush 80, 2) := by decide +kernel
theorem dX8_type_20 : decode cX8_type 20 = .ok (.if_icmp .ne 6, 3) := by decide +kernel
theorem dX8_type_23 : decode cX8_type 23 = .ok (.bipush (-4), 2) := by decide +kernel
theorem dX8_type_25 : decode cX8_type 25 = .ok (.ireturn, 1) := by decide +kernel
theorem dX8_type_26 : decode cX8_type 26 = .ok (.aload_n 0, 1) := by decide +kernel
theorem dX8_type_27 : decode cX8_type 27 = .ok (.getfield 19, 3) := by decide +kernel
theorem dX8_type_30 : decode cX8_type 30 = .ok (.aload_n 0, 1) := by decide +kernel
theorem dX8_type_31 : decode cX8_type 31 = .ok (.getfield 141, 3) := by decide +kernel
theorem dX8_type_34 : decode cX8_type 34 = .ok (.iload_n 1, 1) := by decide +kernel
theorem dX8_type_35 : decode cX8_type 35 = .ok (.iastore, 1) := by decide +kernel
theorem dX8_type_36 : decode cX8_type 36 = .ok (.aload_n 0, 1) := by decide +kernel
theorem dX8_type_37 : decode cX8_type 37 = .ok (.dup, 1) := by decide +kernel
theorem dX8_type_38 : decode cX8_type 38 = .ok (.getfield 141, 3) := by decide +kernel
theorem dX8_type_41 : decode cX8_type 41 = .ok (.iconst 1, 1) := by decide +kernel
theorem dX8_type_42 : decode cX8_type 42 = .ok (.iadd, 1) := by decide +kernel
theorem dX8_type_43 : decode cX8_type 43 = .ok (.putfield 141, 3) := by decide +kernel
theorem dX8_type_46 : decode cX8_type 46 = .ok (.aload_n 0, 1) := by decide +kernel
theorem dX8_type_47 : decode cX8_type 47 = .ok (.getfield 141, 3) := by decide +kernel
theorem dX8_type_50 : decode cX8_type 50 = .ok (.ireturn, 1) := by decide +kernel
theorem dX8_clearText_0 : decode cX8_clearText 0 = .ok (.aload_n 0, 1) := by decide +kernel
theorem dX8_clearText_1 : decode cX8_clearText 1 = .ok (.getfield 141, 3) := by decide +kernel
theorem dX8_clearText_4 : decode cX8_clearText 4 = .ok (.istore_n 1, 1) := by decide +kernel
theorem dX8_clearText_5 : decode cX8_clearText 5 = .ok (.aload_n 0, 1) := by decide +kernel
theorem dX8_clearText_6 : decode cX8_clearText 6 = .ok (.iconst 0, 1) := by decide +kernel
theorem dX8_clearText_7 : decode cX8_clearText 7 = .ok (.putfield 141, 3) := by decide +kernel
theorem dX8_clearText_10 : decode cX8_clearText 10 = .ok (.iload_n 1, 1) := by decide +kernel
theorem dX8_clearText_11 : decode cX8_clearText 11 = .ok (.ireturn, 1) := by decide +kernel
theorem dX8_character_0 : decode cX8_character 0 = .ok (.iload_n 1, 1) := by decide +kernel
theorem dX8_character_1 : decode cX8_character 1 = .ok (.aload_n 0, 1) := by decide +kernel
theorem dX8_character_2 : decode cX8_character 2 = .ok (.getfield 141, 3) := by decide +kernel
theorem dX8_character_5 : decode cX8_character 5 = .ok (.if_icmp .ge 12, 3) := by decide +kernel
theorem dX8_character_8 : decode cX8_character 8 = .ok (.aload_n 0, 1) := by decide +kernel
theorem dX8_character_9 : decode cX8_character 9 = .ok (.getfield 19, 3) := by decide +kernel
theorem dX8_character_12 : decode cX8_character 12 = .ok (.iload_n 1, 1) := by decide +kernel
theorem dX8_character_13 : decode cX8_character 13 = .ok (.iaload, 1) := by decide +kernel
theorem dX8_character_14 : decode cX8_character 14 = .ok (.goto 4, 3) := by decide +kernel
theorem dX8_character_17 : decode cX8_character 17 = .ok (.iconst (-1), 1) := by decide +kernel
theorem dX8_character_18 : decode cX8_character 18 = .ok (.ireturn, 1) := by decide +kernel
theorem dX8_isNext_0 : decode cX8_isNext 0 = .ok (.aload_n 0, 1) := by decide +kernel
theorem dX8_isNext_1 : decode cX8_isNext 1 = .ok (.aload_n 0, 1) := by decide +kernel
theorem dX8_isNext_2 : decode cX8_isNext 2 = .ok (.getfield 144, 3) := by decide +kernel
theorem dX8_isNext_5 : decode cX8_isNext 5 = .ok (.invokevirtual 147, 3) := by decide +kernel
theorem dX8_isNext_8 : decode cX8_isNext 8 = .ok (.iload_n 1, 1) := by decide +kernel
theorem dX8_isNext_9 : decode cX8_isNext 9 = .ok (.if_icmp .ne 7, 3) := by decide +kernel
theorem dX8_isNext_12 : decode cX8_isNext 12 = .ok (.iconst 1, 1) := by decide +kernel
theorem dX8_isNext_13 : decode cX8_isNext 13 = .ok (.goto 4, 3) := by decide +kernel
theorem dX8_isNext_16 : decode cX8_isNext 16 = .ok (.iconst 0, 1) := by decide +kernel
theorem dX8_isNext_17 : decode cX8_isNext 17 = .ok (.istore_n 2, 1) := by decide +kernel
theorem dX8_isNext_18 : decode cX8_isNext 18 = .ok (.aload_n 0, 1) := by decide +kernel
theorem dX8_isNext_19 : decode cX8_isNext 19 = .ok (.dup, 1) := by decide +kernel
theorem dX8_isNext_20 : decode cX8_isNext 20 = .ok (.getfield 144, 3) := by decide +kernel
theorem dX8_isNext_23 : decode cX8_isNext 23 = .ok (.iload_n 2, 1) := by decide +kernel
theorem dX8_isNext_24 : decode cX8_isNext 24 = .ok (.ifCond .eq 7, 3) := by decide +kernel
theorem dX8_isNext_27 : decode cX8_isNext 27 = .ok (.iconst 1, 1) := by decide +kernel
theorem dX8_isNext_28 : decode cX8_isNext 28 = .ok (.goto 4, 3) := by decide +kernel
theorem dX8_isNext_31 : decode cX8_isNext 31 = .ok (.iconst 0, 1) := by decide +kernel
theorem dX8_isNext_32 : decode cX8_isNext 32 = .ok (.iadd, 1) := by decide +kernel
theorem dX8_isNext_33 : decode cX8_isNext 33 = .ok (.putfield 144, 3) := by decide +kernel
theorem dX8_isNext_36 : decode cX8_isNext 36 = .ok (.iload_n 2, 1) := by decide +kernel
theorem dX8_isNext_37 : decode cX8_isNext 37 = .ok (.ireturn, 1) := by decide +kernel
theorem dX8_readsCard_0 : decode cX8_readsCard 0 = .ok (.aload_n 0, 1) := by decide +kernel
theorem dX8_readsCard_1 : decode cX8_readsCard 1 = .ok (.iconst 0, 1) := by decide +kernel
theorem dX8_readsCard_2 : decode cX8_readsCard 2 = .ok (.putfield 150, 3) := by decide +kernel
theorem dX8_readsCard_5 : decode cX8_readsCard 5 = .ok (.iconst (-1), 1) := by decide +kernel
theorem dX8_readsCard_6 : decode cX8_readsCard 6 = .ok (.istore_n 1, 1) := by decide +kernel
theorem dX8_readsCard_7 : decode cX8_readsCard 7 = .ok (.aload_n 0, 1) := by decide +kernel
theorem dX8_readsCard_8 : decode cX8_readsCard 8 = .ok (.aload_n 0, 1) := by decide +kernel
theorem dX8_readsCard_9 : decode cX8_readsCard 9 = .ok (.getfield 144, 3) := by decide +kernel
theorem dX8_readsCard_12 : decode cX8_readsCard 12 = .ok (.invokevirtual 147, 3) := by decide +kernel
theorem dX8_readsCard_15 : decode cX8_readsCard 15 = .ok (.bipush 48, 2) := by decide +kernel
theorem dX8_readsCard_17 : decode cX8_readsCard 17 = .ok (.iload_n 1, 1) := by decide +kernel
theorem dX8_readsCard_18 : decode cX8_readsCard 18 = .ok (.iadd, 1) := by decide +kernel
theorem dX8_readsCard_19 : decode cX8_readsCard 19 = .ok (.iconst 1, 1) := by decide +kernel
theorem dX8_readsCard_20 : decode cX8_readsCard 20 = .ok (.iadd, 1) := by decide +kernel
theorem dX8_readsCard_21 : decode cX8_readsCard 21 = .ok (.bipush 53, 2) := by decide +kernel
theorem dX8_readsCard_23 : decode cX8_readsCard 23 = .ok (.invokestatic 40, 3) := by decide +kernel
theorem dX8_readsCard_26 : decode cX8_readsCard 26 = .ok (.ifCond .eq 40, 3) := by decide +kernel
theorem dX8_readsCard_29 : decode cX8_readsCard 29 = .ok (.aload_n 0, 1) := by decide +kernel
theorem dX8_readsCard_30 : decode cX8_readsCard 30 = .ok (.aload_n 0, 1) := by decide +kernel
theorem dX8_readsCard_31 : decode cX8_readsCard 31 = .ok (.getfield 144, 3) := by decide +kernel
theorem dX8_readsCard_34 : decode cX8_readsCard 34 = .ok (.invokevirtual 147, 3) := by decide +kernel
theorem dX8_readsCard_37 : decode cX8_readsCard 37 = .ok (.bipush 48, 2) := by decide +kernel
theorem dX8_readsCard_39 : decode cX8_readsCard 39 = .ok (.isub, 1) := by decide +kernel
theorem dX8_readsCard_40 : decode cX8_readsCard 40 = .ok (.istore_n 1, 1) := by decide +kernel
theorem dX8_readsCard_41 : decode cX8_readsCard 41 = .ok (.aload_n 0, 1) := by decide +kernel
theorem dX8_readsCard_42 : decode cX8_readsCard 42 = .ok (.dup, 1) := by decide +kernel
theorem dX8_readsCard_43 : decode cX8_readsCard 43 = .ok (.getfield 150, 3) := by decide +kernel
theorem dX8_readsCard_46 : decode cX8_readsCard 46 = .ok (.iconst 1, 1) := by decide +kernel
theorem dX8_readsCard_47 : decode cX8_readsCard 47 = .ok (.iload_n 1, 1) := by decide +kernel
theorem dX8_readsCard_48 : decode cX8_readsCard 48 = .ok (.ishl, 1) := by decide +kernel
theorem dX8_readsCard_49 : decode cX8_readsCard 49 = .ok (.ior, 1) := by decide +kernel
theorem dX8_readsCard_50 : decode cX8_readsCard 50 = .ok (.putfield 150, 3) := by decide +kernel
theorem dX8_readsCard_53 : decode cX8_readsCard 53 = .ok (.aload_n 0, 1) := by decide +kernel
theorem dX8_readsCard_54 : decode cX8_readsCard 54 = .ok (.dup, 1) := by decide +kernel
theorem dX8_readsCard_55 : decode cX8_readsCard 55 = .ok (.getfield 144, 3) := by decide +kernel
theorem dX8_readsCard_58 : decode cX8_readsCard 58 = .ok (.iconst 1, 1) := by decide +kernel
theorem dX8_readsCard_59 : decode cX8_readsCard 59 = .ok (.iadd, 1) := by decide +kernel
theorem dX8_readsCard_60 : decode cX8_readsCard 60 = .ok (.putfield 144, 3) := by decide +kernel
theorem dX8_readsCard_63 : decode cX8_readsCard 63 = .ok (.goto (-56), 3) := by decide +kernel
theorem dX8_readsCard_66 : decode cX8_readsCard 66 = .ok (.aload_n 0, 1) := by decide +kernel
theorem dX8_readsCard_67 : decode cX8_readsCard 67 = .ok (.bipush 76, 2) := by decide +kernel
theorem dX8_readsCard_69 : decode cX8_readsCard 69 = .ok (.invokevirtual 153, 3) := by decide +kernel
theorem dX8_readsCard_72 : decode cX8_readsCard 72 = .ok (.ifCond .eq 21, 3) := by decide +kernel
theorem dX8_readsCard_75 : decode cX8_readsCard 75 = .ok (.aload_n 0, 1) := by decide +kernel
theorem dX8_readsCard_76 : decode cX8_readsCard 76 = .ok (.aload_n 0, 1) := by decide +kernel
theorem dX8_readsCard_77 : decode cX8_readsCard 77 = .ok (.getfield 144, 3) := by decide +kernel
theorem dX8_readsCard_80 : decode cX8_readsCard 80 = .ok (.invokevirtual 147, 3) := by decide +kernel
theorem dX8_readsCard_83 : decode cX8_readsCard 83 = .ok (.bipush 48, 2) := by decide +kernel
theorem dX8_readsCard_85 : decode cX8_readsCard 85 = .ok (.bipush 51, 2) := by decide +kernel
theorem dX8_readsCard_87 : decode cX8_readsCard 87 = .ok (.invokestatic 40, 3) := by decide +kernel
theorem dX8_readsCard_90 : decode cX8_readsCard 90 = .ok (.ifCond .ne 5, 3) := by decide +kernel
theorem dX8_readsCard_93 : decode cX8_readsCard 93 = .ok (.iconst 0, 1) := by decide +kernel
theorem dX8_readsCard_94 : decode cX8_readsCard 94 = .ok (.ireturn, 1) := by decide +kernel
theorem dX8_readsCard_95 : decode cX8_readsCard 95 = .ok (.aload_n 0, 1) := by decide +kernel
theorem dX8_readsCard_96 : decode cX8_readsCard 96 = .ok (.aload_n 0, 1) := by decide +kernel
theorem dX8_readsCard_97 : decode cX8_readsCard 97 = .ok (.aload_n 0, 1) := by decide +kernel
theorem dX8_readsCard_98 : decode cX8_readsCard 98 = .ok (.getfield 144, 3) := by decide +kernel
theorem dX8_readsCard_101 : decode cX8_readsCard 101 = .ok (.invokevirtual 147, 3) := by decide +kernel
theorem dX8_readsCard_104 : decode cX8_readsCard 104 = .ok (.bipush 48, 2) := by decide +kernel
theorem dX8_readsCard_106 : decode cX8_readsCard 106 = .ok (.isub, 1) := by decide +kernel
theorem dX8_readsCard_107 : decode cX8_readsCard 107 = .ok (.putfield 156, 3) := by decide +kernel
theorem dX8_readsCard_110 : decode cX8_readsCard 110 = .ok (.aload_n 0, 1) := by decide +kernel
theorem dX8_readsCard_111 : decode cX8_readsCard 111 = .ok (.dup, 1) := by decide +kernel
theorem dX8_readsCard_112 : decode cX8_readsCard 112 = .ok (.getfield 144, 3) := by decide +kernel
theorem dX8_readsCard_115 : decode cX8_readsCard 115 = .ok (.iconst 1, 1) := by decide +kernel
theorem dX8_readsCard_116 : decode cX8_readsCard 116 = .ok (.iadd, 1) := by decide +kernel
theorem dX8_readsCard_117 : decode cX8_readsCard 117 = .ok (.putfield 144, 3) := by decide +kernel
theorem dX8_readsCard_120 : decode cX8_readsCard 120 = .ok (.aload_n 0, 1) := by decide +kernel
theorem dX8_readsCard_121 : decode cX8_readsCard 121 = .ok (.bipush 82, 2) := by decide +kernel
theorem dX8_readsCard_123 : decode cX8_readsCard 123 = .ok (.invokevirtual 153, 3) := by decide +kernel
theorem dX8_readsCard_126 : decode cX8_readsCard 126 = .ok (.ifCond .eq 21, 3) := by decide +kernel
theorem dX8_readsCard_129 : decode cX8_readsCard 129 = .ok (.aload_n 0, 1) := by decide +kernel
theorem dX8_readsCard_130 : decode cX8_readsCard 130 = .ok (.aload_n 0, 1) := by decide +kernel
theorem dX8_readsCard_131 : decode cX8_readsCard 131 = .ok (.getfield 144, 3) := by decide +kernel
theorem dX8_readsCard_134 : decode cX8_readsCard 134 = .ok (.invokevirtual 147, 3) := by decide +kernel
theorem dX8_readsCard_137 : decode cX8_readsCard 137 = .ok (.bipush 48, 2) := by decide +kernel
theorem dX8_readsCard_139 : decode cX8_readsCard 139 = .ok (.bipush 49, 2) := by decide +kernel
theorem dX8_readsCard_141 : decode cX8_readsCard 141 = .ok (.invokestatic 40, 3) := by decide +kernel
theorem dX8_readsCard_144 : decode cX8_readsCard 144 = .ok (.ifCond .ne 5, 3) := by decide +kernel
theorem dX8_readsCard_147 : decode cX8_readsCard 147 = .ok (.iconst 0, 1) := by decide +kernel
theorem dX8_readsCard_148 : decode cX8_readsCard 148 = .ok (.ireturn, 1) := by decide +kernel
theorem dX8_readsCard_149 : decode cX8_readsCard 149 = .ok (.aload_n 0, 1) := by decide +kernel
theorem dX8_readsCard_150 : decode cX8_readsCard 150 = .ok (.aload_n 0, 1) := by decide +kernel
theorem dX8_readsCard_151 : decode cX8_readsCard 151 = .ok (.aload_n 0, 1) := by decide +kernel
theorem dX8_readsCard_152 : decode cX8_readsCard 152 = .ok (.getfield 144, 3) := by decide +kernel
theorem dX8_readsCard_155 : decode cX8_readsCard 155 = .ok (.invokevirtual 147, 3) := by decide +kernel
theorem dX8_readsCard_158 : decode cX8_readsCard 158 = .ok (.bipush 48, 2) := by decide +kernel
theorem dX8_readsCard_160 : decode cX8_readsCard 160 = .ok (.isub, 1) := by decide +kernel
theorem dX8_readsCard_161 : decode cX8_readsCard 161 = .ok (.putfield 159, 3) := by decide +kernel
theorem dX8_readsCard_164 : decode cX8_readsCard 164 = .ok (.aload_n 0, 1) := by decide +kernel
theorem dX8_readsCard_165 : decode cX8_readsCard 165 = .ok (.dup, 1) := by decide +kernel
theorem dX8_readsCard_166 : decode cX8_readsCard 166 = .ok (.getfield 144, 3) := by decide +kernel
theorem dX8_readsCard_169 : decode cX8_readsCard 169 = .ok (.iconst 1, 1) := by decide +kernel
theorem dX8_readsCard_170 : decode cX8_readsCard 170 = .ok (.iadd, 1) := by decide +kernel
theorem dX8_readsCard_171 : decode cX8_readsCard 171 = .ok (.putfield 144, 3) := by decide +kernel
theorem dX8_readsCard_174 : decode cX8_readsCard 174 = .ok (.iconst 1, 1) := by decide +kernel
theorem dX8_readsCard_175 : decode cX8_readsCard 175 = .ok (.ireturn, 1) := by decide +kernel
theorem dX8_findError_0 : decode cX8_findError 0 = .ok (.aload_n 0, 1) := by decide +kernel
theorem dX8_findError_1 : decode cX8_findError 1 = .ok (.iconst 0, 1) := by decide +kernel
theorem dX8_findError_2 : decode cX8_findError 2 = .ok (.putfield 144, 3) := by decide +kernel
theorem dX8_findError_5 : decode cX8_findError 5 = .ok (.aload_n 0, 1) := by decide +kernel
theorem dX8_findError_6 : decode cX8_findError 6 = .ok (.invokevirtual 162, 3) := by decide +kernel
theorem dX8_findError_9 : decode cX8_findError 9 = .ok (.ifCond .ne 8, 3) := by decide +kernel
theorem dX8_findError_12 : decode cX8_findError 12 = .ok (.aload_n 0, 1) := by decide +kernel
theorem dX8_findError_13 : decode cX8_findError 13 = .ok (.getfield 144, 3) := by decide +kernel
theorem dX8_findError_16 : decode cX8_findError 16 = .ok (.ireturn, 1) := by decide +kernel
theorem dX8_findError_17 : decode cX8_findError 17 = .ok (.aload_n 0, 1) := by decide +kernel
theorem dX8_findError_18 : decode cX8_findError 18 = .ok (.getfield 144, 3) := by decide +kernel
theorem dX8_findError_21 : decode cX8_findError 21 = .ok (.aload_n 0, 1) := by decide +kernel
theorem dX8_findError_22 : decode cX8_findError 22 = .ok (.getfield 141, 3) := by decide +kernel
theorem dX8_findError_25 : decode cX8_findError 25 = .ok (.if_icmp .ne 6, 3) := by decide +kernel
theorem dX8_findError_28 : decode cX8_findError 28 = .ok (.bipush (-6), 2) := by decide +kernel
theorem dX8_findError_30 : decode cX8_findError 30 = .ok (.ireturn, 1) := by decide +kernel
theorem dX8_findError_31 : decode cX8_findError 31 = .ok (.aload_n 0, 1) := by decide +kernel
theorem dX8_findError_32 : decode cX8_findError 32 = .ok (.bipush 59, 2) := by decide +kernel
theorem dX8_findError_34 : decode cX8_findError 34 = .ok (.invokevirtual 153, 3) := by decide +kernel
theorem dX8_findError_37 : decode cX8_findError 37 = .ok (.ifCond .ne (-32), 3) := by decide +kernel
theorem dX8_findError_40 : decode cX8_findError 40 = .ok (.aload_n 0, 1) := by decide +kernel
theorem dX8_findError_41 : decode cX8_findError 41 = .ok (.getfield 144, 3) := by decide +kernel
theorem dX8_findError_44 : decode cX8_findError 44 = .ok (.ireturn, 1) := by decide +kernel
theorem dX8_syntaxError_0 : decode cX8_syntaxError 0 = .ok (.aload_n 0, 1) := by decide +kernel
theorem dX8_syntaxError_1 : decode cX8_syntaxError 1 = .ok (.invokevirtual 166, 3) := by decide +kernel
theorem dX8_syntaxError_4 : decode cX8_syntaxError 4 = .ok (.ireturn, 1) := by decide +kernel
theorem dX8_readCards_0 : decode cX8_readCards 0 = .ok (.aload_n 0, 1) := by decide +kernel
theorem dX8_readCards_1 : decode cX8_readCards 1 = .ok (.invokevirtual 166, 3) := by decide +kernel
theorem dX8_readCards_4 : decode cX8_readCards 4 = .ok (.bipush (-6), 2) := by decide +kernel
theorem dX8_readCards_6 : decode cX8_readCards 6 = .ok (.if_icmp .eq 6, 3) := by decide +kernel
theorem dX8_readCards_9 : decode cX8_readCards 9 = .ok (.bipush (-5), 2) := by decide +kernel
theorem dX8_readCards_11 : decode cX8_readCards 11 = .ok (.ireturn, 1) := by decide +kernel
theorem dX8_readCards_12 : decode cX8_readCards 12 = .ok (.iconst 1, 1) := by decide +kernel
theorem dX8_readCards_13 : decode cX8_readCards 13 = .ok (.istore_n 1, 1) := by decide +kernel
theorem dX8_readCards_14 : decode cX8_readCards 14 = .ok (.iconst 0, 1) := by decide +kernel
theorem dX8_readCards_15 : decode cX8_readCards 15 = .ok (.istore_n 2, 1) := by decide +kernel
theorem dX8_readCards_16 : decode cX8_readCards 16 = .ok (.iload_n 2, 1) := by decide +kernel
theorem dX8_readCards_17 : decode cX8_readCards 17 = .ok (.aload_n 0, 1) := by decide +kernel
theorem dX8_readCards_18 : decode cX8_readCards 18 = .ok (.getfield 141, 3) := by decide +kernel
theorem dX8_readCards_21 : decode cX8_readCards 21 = .ok (.if_icmp .ge 28, 3) := by decide +kernel
theorem dX8_readCards_24 : decode cX8_readCards 24 = .ok (.iload_n 1, 1) := by decide +kernel
theorem dX8_readCards_25 : decode cX8_readCards 25 = .ok (.aload_n 0, 1) := by decide +kernel
theorem dX8_readCards_26 : decode cX8_readCards 26 = .ok (.getfield 19, 3) := by decide +kernel
theorem dX8_readCards_29 : decode cX8_readCards 29 = .ok (.iload_n 2, 1) := by decide +kernel
theorem dX8_readCards_30 : decode cX8_readCards 30 = .ok (.iaload, 1) := by decide +kernel
theorem dX8_readCards_31 : decode cX8_readCards 31 = .ok (.bipush 59, 2) := by decide +kernel
theorem dX8_readCards_33 : decode cX8_readCards 33 = .ok (.if_icmp .ne 7, 3) := by decide +kernel
theorem dX8_readCards_36 : decode cX8_readCards 36 = .ok (.iconst 1, 1) := by decide +kernel
theorem dX8_readCards_37 : decode cX8_readCards 37 = .ok (.goto 4, 3) := by decide +kernel
theorem dX8_readCards_40 : decode cX8_readCards 40 = .ok (.iconst 0, 1) := by decide +kernel
theorem dX8_readCards_41 : decode cX8_readCards 41 = .ok (.iadd, 1) := by decide +kernel
theorem dX8_readCards_42 : decode cX8_readCards 42 = .ok (.istore_n 1, 1) := by decide +kernel
theorem dX8_readCards_43 : decode cX8_readCards 43 = .ok (.iinc 2 1, 3) := by decide +kernel
theorem dX8_readCards_46 : decode cX8_readCards 46 = .ok (.goto (-30), 3) := by decide +kernel
theorem dX8_readCards_49 : decode cX8_readCards 49 = .ok (.aload_n 0, 1) := by decide +kernel
theorem dX8_readCards_50 : decode cX8_readCards 50 = .ok (.getfield 7, 3) := by decide +kernel
theorem dX8_readCards_53 : decode cX8_readCards 53 = .ok (.iconst 0, 1) := by decide +kernel
theorem dX8_readCards_54 : decode cX8_readCards 54 = .ok (.iaload, 1) := by decide +kernel
theorem dX8_readCards_55 : decode cX8_readCards 55 = .ok (.iload_n 1, 1) := by decide +kernel
theorem dX8_readCards_56 : decode cX8_readCards 56 = .ok (.iadd, 1) := by decide +kernel
theorem dX8_readCards_57 : decode cX8_readCards 57 = .ok (.bipush 16, 2) := by decide +kernel
theorem dX8_readCards_59 : decode cX8_readCards 59 = .ok (.if_icmp .le 6, 3) := by decide +kernel
theorem dX8_readCards_62 : decode cX8_readCards 62 = .ok (.bipush (-4), 2) := by decide +kernel
theorem dX8_readCards_64 : decode cX8_readCards 64 = .ok (.ireturn, 1) := by decide +kernel
theorem dX8_readCards_65 : decode cX8_readCards 65 = .ok (.aload_n 0, 1) := by decide +kernel
theorem dX8_readCards_66 : decode cX8_readCards 66 = .ok (.invokevirtual 99, 3) := by decide +kernel
theorem dX8_readCards_69 : decode cX8_readCards 69 = .ok (.aload_n 0, 1) := by decide +kernel
theorem dX8_readCards_70 : decode cX8_readCards 70 = .ok (.iconst 0, 1) := by decide +kernel
theorem dX8_readCards_71 : decode cX8_readCards 71 = .ok (.putfield 144, 3) := by decide +kernel
theorem dX8_readCards_74 : decode cX8_readCards 74 = .ok (.aload_n 0, 1) := by decide +kernel
theorem dX8_readCards_75 : decode cX8_readCards 75 = .ok (.getfield 144, 3) := by decide +kernel
theorem dX8_readCards_78 : decode cX8_readCards 78 = .ok (.aload_n 0, 1) := by decide +kernel
theorem dX8_readCards_79 : decode cX8_readCards 79 = .ok (.getfield 141, 3) := by decide +kernel
theorem dX8_readCards_82 : decode cX8_readCards 82 = .ok (.if_icmp .ge 34, 3) := by decide +kernel
theorem dX8_readCards_85 : decode cX8_readCards 85 = .ok (.aload_n 0, 1) := by decide +kernel
theorem dX8_readCards_86 : decode cX8_readCards 86 = .ok (.invokevirtual 162, 3) := by decide +kernel
theorem dX8_readCards_89 : decode cX8_readCards 89 = .ok (.pop, 1) := by decide +kernel
theorem dX8_readCards_90 : decode cX8_readCards 90 = .ok (.aload_n 0, 1) := by decide +kernel
theorem dX8_readCards_91 : decode cX8_readCards 91 = .ok (.bipush 59, 2) := by decide +kernel
theorem dX8_readCards_93 : decode cX8_readCards 93 = .ok (.invokevirtual 153, 3) := by decide +kernel
theorem dX8_readCards_96 : decode cX8_readCards 96 = .ok (.pop, 1) := by decide +kernel
theorem dX8_readCards_97 : decode cX8_readCards 97 = .ok (.aload_n 0, 1) := by decide +kernel
theorem dX8_readCards_98 : decode cX8_readCards 98 = .ok (.aload_n 0, 1) := by decide +kernel
theorem dX8_readCards_99 : decode cX8_readCards 99 = .ok (.getfield 150, 3) := by decide +kernel
theorem dX8_readCards_102 : decode cX8_readCards 102 = .ok (.aload_n 0, 1) := by decide +kernel
theorem dX8_readCards_103 : decode cX8_readCards 103 = .ok (.getfield 156, 3) := by decide +kernel
theorem dX8_readCards_106 : decode cX8_readCards 106 = .ok (.aload_n 0, 1) := by decide +kernel
theorem dX8_readCards_107 : decode cX8_readCards 107 = .ok (.getfield 159, 3) := by decide +kernel
theorem dX8_readCards_110 : decode cX8_readCards 110 = .ok (.invokevirtual 111, 3) := by decide +kernel
theorem dX8_readCards_113 : decode cX8_readCards 113 = .ok (.goto (-39), 3) := by decide +kernel
theorem dX8_readCards_116 : decode cX8_readCards 116 = .ok (.aload_n 0, 1) := by decide +kernel
theorem dX8_readCards_117 : decode cX8_readCards 117 = .ok (.iconst 0, 1) := by decide +kernel
theorem dX8_readCards_118 : decode cX8_readCards 118 = .ok (.putfield 141, 3) := by decide +kernel
theorem dX8_readCards_121 : decode cX8_readCards 121 = .ok (.aload_n 0, 1) := by decide +kernel
theorem dX8_readCards_122 : decode cX8_readCards 122 = .ok (.getfield 7, 3) := by decide +kernel
theorem dX8_readCards_125 : decode cX8_readCards 125 = .ok (.iconst 0, 1) := by decide +kernel
theorem dX8_readCards_126 : decode cX8_readCards 126 = .ok (.iaload, 1) := by decide +kernel
theorem dX8_readCards_127 : decode cX8_readCards 127 = .ok (.ireturn, 1) := by decide +kernel
theorem dX8_undo_0 : decode cX8_undo 0 = .ok (.aload_n 0, 1) := by decide +kernel
theorem dX8_undo_1 : decode cX8_undo 1 = .ok (.getfield 29, 3) := by decide +kernel
theorem dX8_undo_4 : decode cX8_undo 4 = .ok (.ifCond .ne 6, 3) := by decide +kernel
theorem dX8_undo_7 : decode cX8_undo 7 = .ok (.bipush (-3), 2) := by decide +kernel
theorem dX8_undo_9 : decode cX8_undo 9 = .ok (.ireturn, 1) := by decide +kernel
theorem dX8_undo_10 : decode cX8_undo 10 = .ok (.aload_n 0, 1) := by decide +kernel
theorem dX8_undo_11 : decode cX8_undo 11 = .ok (.dup, 1) := by decide +kernel
theorem dX8_undo_12 : decode cX8_undo 12 = .ok (.getfield 29, 3) := by decide +kernel
theorem dX8_undo_15 : decode cX8_undo 15 = .ok (.iconst 1, 1) := by decide +kernel
theorem dX8_undo_16 : decode cX8_undo 16 = .ok (.isub, 1) := by decide +kernel
theorem dX8_undo_17 : decode cX8_undo 17 = .ok (.putfield 29, 3) := by decide +kernel
theorem dX8_undo_20 : decode cX8_undo 20 = .ok (.aload_n 0, 1) := by decide +kernel
theorem dX8_undo_21 : decode cX8_undo 21 = .ok (.getfield 16, 3) := by decide +kernel
theorem dX8_undo_24 : decode cX8_undo 24 = .ok (.aload_n 0, 1) := by decide +kernel
theorem dX8_undo_25 : decode cX8_undo 25 = .ok (.getfield 29, 3) := by decide +kernel
theorem dX8_undo_28 : decode cX8_undo 28 = .ok (.sipush 284, 3) := by decide +kernel
theorem dX8_undo_31 : decode cX8_undo 31 = .ok (.imul, 1) := by decide +kernel
theorem dX8_undo_32 : decode cX8_undo 32 = .ok (.aload_n 0, 1) := by decide +kernel
theorem dX8_undo_33 : decode cX8_undo 33 = .ok (.getfield 7, 3) := by decide +kernel
theorem dX8_undo_36 : decode cX8_undo 36 = .ok (.iconst 0, 1) := by decide +kernel
theorem dX8_undo_37 : decode cX8_undo 37 = .ok (.invokestatic 33, 3) := by decide +kernel
theorem dX8_undo_40 : decode cX8_undo 40 = .ok (.aload_n 0, 1) := by decide +kernel
theorem dX8_undo_41 : decode cX8_undo 41 = .ok (.getfield 29, 3) := by decide +kernel
theorem dX8_undo_44 : decode cX8_undo 44 = .ok (.ireturn, 1) := by decide +kernel
theorem dX8_digest_0 : decode cX8_digest 0 = .ok (.ldc2_w 169, 3) := by decide +kernel
theorem dX8_digest_3 : decode cX8_digest 3 = .ok (.lstore_n 1, 1) := by decide +kernel
theorem dX8_digest_4 : decode cX8_digest 4 = .ok (.iconst 0, 1) := by decide +kernel
theorem dX8_digest_5 : decode cX8_digest 5 = .ok (.istore_n 3, 1) := by decide +kernel
theorem dX8_digest_6 : decode cX8_digest 6 = .ok (.iload_n 3, 1) := by decide +kernel
theorem dX8_digest_7 : decode cX8_digest 7 = .ok (.bipush 11, 2) := by decide +kernel
theorem dX8_digest_9 : decode cX8_digest 9 = .ok (.if_icmp .gt 23, 3) := by decide +kernel
theorem dX8_digest_12 : decode cX8_digest 12 = .ok (.ldc2_w 171, 3) := by decide +kernel
theorem dX8_digest_15 : decode cX8_digest 15 = .ok (.lload_n 1, 1) := by decide +kernel
theorem dX8_digest_16 : decode cX8_digest 16 = .ok (.lmul, 1) := by decide +kernel
theorem dX8_digest_17 : decode cX8_digest 17 = .ok (.aload_n 0, 1) := by decide +kernel
theorem dX8_digest_18 : decode cX8_digest 18 = .ok (.getfield 7, 3) := by decide +kernel
theorem dX8_digest_21 : decode cX8_digest 21 = .ok (.iload_n 3, 1) := by decide +kernel
theorem dX8_digest_22 : decode cX8_digest 22 = .ok (.iaload, 1) := by decide +kernel
theorem dX8_digest_23 : decode cX8_digest 23 = .ok (.i2l, 1) := by decide +kernel
theorem dX8_digest_24 : decode cX8_digest 24 = .ok (.ladd, 1) := by decide +kernel
theorem dX8_digest_25 : decode cX8_digest 25 = .ok (.lstore_n 1, 1) := by decide +kernel
theorem dX8_digest_26 : decode cX8_digest 26 = .ok (.iinc 3 1, 3) := by decide +kernel
theorem dX8_digest_29 : decode cX8_digest 29 = .ok (.goto (-23), 3) := by decide +kernel
theorem dX8_digest_32 : decode cX8_digest 32 = .ok (.iconst 0, 1) := by decide +kernel
theorem dX8_digest_33 : decode cX8_digest 33 = .ok (.istore_n 3, 1) := by decide +kernel
theorem dX8_digest_34 : decode cX8_digest 34 = .ok (.iload_n 3, 1) := by decide +kernel
theorem dX8_digest_35 : decode cX8_digest 35 = .ok (.iconst 5, 1) := by decide +kernel
theorem dX8_digest_36 : decode cX8_digest 36 = .ok (.if_icmp .ge 39, 3) := by decide +kernel
theorem dX8_digest_39 : decode cX8_digest 39 = .ok (.iconst 0, 1) := by decide +kernel
theorem dX8_digest_40 : decode cX8_digest 40 = .ok (.istore 4, 2) := by decide +kernel
theorem dX8_digest_42 : decode cX8_digest 42 = .ok (.iload 4, 2) := by decide +kernel
theorem dX8_digest_44 : decode cX8_digest 44 = .ok (.iconst 3, 1) := by decide +kernel
theorem dX8_digest_45 : decode cX8_digest 45 = .ok (.if_icmp .gt 24, 3) := by decide +kernel
theorem dX8_digest_48 : decode cX8_digest 48 = .ok (.ldc2_w 171, 3) := by decide +kernel
theorem dX8_digest_51 : decode cX8_digest 51 = .ok (.lload_n 1, 1) := by decide +kernel
theorem dX8_digest_52 : decode cX8_digest 52 = .ok (.lmul, 1) := by decide +kernel
theorem dX8_digest_53 : decode cX8_digest 53 = .ok (.aload_n 0, 1) := by decide +kernel
theorem dX8_digest_54 : decode cX8_digest 54 = .ok (.iload_n 3, 1) := by decide +kernel
theorem dX8_digest_55 : decode cX8_digest 55 = .ok (.iload 4, 2) := by decide +kernel
theorem dX8_digest_57 : decode cX8_digest 57 = .ok (.invokevirtual 44, 3) := by decide +kernel
theorem dX8_digest_60 : decode cX8_digest 60 = .ok (.i2l, 1) := by decide +kernel
theorem dX8_digest_61 : decode cX8_digest 61 = .ok (.ladd, 1) := by decide +kernel
theorem dX8_digest_62 : decode cX8_digest 62 = .ok (.lstore_n 1, 1) := by decide +kernel
theorem dX8_digest_63 : decode cX8_digest 63 = .ok (.iinc 4 1, 3) := by decide +kernel
theorem dX8_digest_66 : decode cX8_digest 66 = .ok (.goto (-24), 3) := by decide +kernel
theorem dX8_digest_69 : decode cX8_digest 69 = .ok (.iinc 3 1, 3) := by decide +kernel
theorem dX8_digest_72 : decode cX8_digest 72 = .ok (.goto (-38), 3) := by decide +kernel
theorem dX8_digest_75 : decode cX8_digest 75 = .ok (.iconst 0, 1) := by decide +kernel
theorem dX8_digest_76 : decode cX8_digest 76 = .ok (.istore_n 3, 1) := by decide +kernel
theorem dX8_digest_77 : decode cX8_digest 77 = .ok (.iload_n 3, 1) := by decide +kernel
theorem dX8_digest_78 : decode cX8_digest 78 = .ok (.bipush 12, 2) := by decide +kernel
theorem dX8_digest_80 : decode cX8_digest 80 = .ok (.if_icmp .ge 52, 3) := by decide +kernel
theorem dX8_digest_83 : decode cX8_digest 83 = .ok (.iconst 0, 1) := by decide +kernel
theorem dX8_digest_84 : decode cX8_digest 84 = .ok (.istore 4, 2) := by decide +kernel
theorem dX8_digest_86 : decode cX8_digest 86 = .ok (.iload 4, 2) := by decide +kernel
theorem dX8_digest_88 : decode cX8_digest 88 = .ok (.iconst 2, 1) := by decide +kernel
theorem dX8_digest_89 : decode cX8_digest 89 = .ok (.if_icmp .gt 24, 3) := by decide +kernel
theorem dX8_digest_92 : decode cX8_digest 92 = .ok (.ldc2_w 171, 3) := by decide +kernel
theorem dX8_digest_95 : decode cX8_digest 95 = .ok (.lload_n 1, 1) := by decide +kernel
theorem dX8_digest_96 : decode cX8_digest 96 = .ok (.lmul, 1) := by decide +kernel
theorem dX8_digest_97 : decode cX8_digest 97 = .ok (.aload_n 0, 1) := by decide +kernel
theorem dX8_digest_98 : decode cX8_digest 98 = .ok (.iload_n 3, 1) := by decide +kernel
theorem dX8_digest_99 : decode cX8_digest 99 = .ok (.iload 4, 2) := by decide +kernel
theorem dX8_digest_101 : decode cX8_digest 101 = .ok (.invokevirtual 117, 3) := by decide +kernel
theorem dX8_digest_104 : decode cX8_digest 104 = .ok (.i2l, 1) := by decide +kernel
theorem dX8_digest_105 : decode cX8_digest 105 = .ok (.ladd, 1) := by decide +kernel
theorem dX8_digest_106 : decode cX8_digest 106 = .ok (.lstore_n 1, 1) := by decide +kernel
theorem dX8_digest_107 : decode cX8_digest 107 = .ok (.iinc 4 1, 3) := by decide +kernel
theorem dX8_digest_110 : decode cX8_digest 110 = .ok (.goto (-24), 3) := by decide +kernel
theorem dX8_digest_113 : decode cX8_digest 113 = .ok (.ldc2_w 171, 3) := by decide +kernel
theorem dX8_digest_116 : decode cX8_digest 116 = .ok (.lload_n 1, 1) := by decide +kernel
theorem dX8_digest_117 : decode cX8_digest 117 = .ok (.lmul, 1) := by decide +kernel
theorem dX8_digest_118 : decode cX8_digest 118 = .ok (.aload_n 0, 1) := by decide +kernel
theorem dX8_digest_119 : decode cX8_digest 119 = .ok (.iload_n 3, 1) := by decide +kernel
theorem dX8_digest_120 : decode cX8_digest 120 = .ok (.invokevirtual 126, 3) := by decide +kernel
theorem dX8_digest_123 : decode cX8_digest 123 = .ok (.i2l, 1) := by decide +kernel
theorem dX8_digest_124 : decode cX8_digest 124 = .ok (.ladd, 1) := by decide +kernel
theorem dX8_digest_125 : decode cX8_digest 125 = .ok (.lstore_n 1, 1) := by decide +kernel
theorem dX8_digest_126 : decode cX8_digest 126 = .ok (.iinc 3 1, 3) := by decide +kernel
theorem dX8_digest_129 : decode cX8_digest 129 = .ok (.goto (-52), 3) := by decide +kernel
theorem dX8_digest_132 : decode cX8_digest 132 = .ok (.iconst 0, 1) := by decide +kernel
theorem dX8_digest_133 : decode cX8_digest 133 = .ok (.istore_n 3, 1) := by decide +kernel
theorem dX8_digest_134 : decode cX8_digest 134 = .ok (.iload_n 3, 1) := by decide +kernel
theorem dX8_digest_135 : decode cX8_digest 135 = .ok (.aload_n 0, 1) := by decide +kernel
theorem dX8_digest_136 : decode cX8_digest 136 = .ok (.getfield 7, 3) := by decide +kernel
theorem dX8_digest_139 : decode cX8_digest 139 = .ok (.iconst 0, 1) := by decide +kernel
theorem dX8_digest_140 : decode cX8_digest 140 = .ok (.iaload, 1) := by decide +kernel
theorem dX8_digest_141 : decode cX8_digest 141 = .ok (.if_icmp .ge 39, 3) := by decide +kernel
theorem dX8_digest_144 : decode cX8_digest 144 = .ok (.iconst 0, 1) := by decide +kernel
theorem dX8_digest_145 : decode cX8_digest 145 = .ok (.istore 4, 2) := by decide +kernel
theorem dX8_digest_147 : decode cX8_digest 147 = .ok (.iload 4, 2) := by decide +kernel
theorem dX8_digest_149 : decode cX8_digest 149 = .ok (.iconst 3, 1) := by decide +kernel
theorem dX8_digest_150 : decode cX8_digest 150 = .ok (.if_icmp .gt 24, 3) := by decide +kernel
theorem dX8_digest_153 : decode cX8_digest 153 = .ok (.ldc2_w 171, 3) := by decide +kernel
theorem dX8_digest_156 : decode cX8_digest 156 = .ok (.lload_n 1, 1) := by decide +kernel
theorem dX8_digest_157 : decode cX8_digest 157 = .ok (.lmul, 1) := by decide +kernel
theorem dX8_digest_158 : decode cX8_digest 158 = .ok (.aload_n 0, 1) := by decide +kernel
theorem dX8_digest_159 : decode cX8_digest 159 = .ok (.iload_n 3, 1) := by decide +kernel
theorem dX8_digest_160 : decode cX8_digest 160 = .ok (.iload 4, 2) := by decide +kernel
theorem dX8_digest_162 : decode cX8_digest 162 = .ok (.invokevirtual 120, 3) := by decide +kernel
theorem dX8_digest_165 : decode cX8_digest 165 = .ok (.i2l, 1) := by decide +kernel
theorem dX8_digest_166 : decode cX8_digest 166 = .ok (.ladd, 1) := by decide +kernel
theorem dX8_digest_167 : decode cX8_digest 167 = .ok (.lstore_n 1, 1) := by decide +kernel
theorem dX8_digest_168 : decode cX8_digest 168 = .ok (.iinc 4 1, 3) := by decide +kernel
theorem dX8_digest_171 : decode cX8_digest 171 = .ok (.goto (-24), 3) := by decide +kernel
theorem dX8_digest_174 : decode cX8_digest 174 = .ok (.iinc 3 1, 3) := by decide +kernel
theorem dX8_digest_177 : decode cX8_digest 177 = .ok (.goto (-43), 3) := by decide +kernel
theorem dX8_digest_180 : decode cX8_digest 180 = .ok (.iconst 0, 1) := by decide +kernel
theorem dX8_digest_181 : decode cX8_digest 181 = .ok (.istore_n 3, 1) := by decide +kernel
theorem dX8_digest_182 : decode cX8_digest 182 = .ok (.iload_n 3, 1) := by decide +kernel
theorem dX8_digest_183 : decode cX8_digest 183 = .ok (.aload_n 0, 1) := by decide +kernel
theorem dX8_digest_184 : decode cX8_digest 184 = .ok (.getfield 7, 3) := by decide +kernel
theorem dX8_digest_187 : decode cX8_digest 187 = .ok (.bipush 7, 2) := by decide +kernel
theorem dX8_digest_189 : decode cX8_digest 189 = .ok (.iaload, 1) := by decide +kernel
theorem dX8_digest_190 : decode cX8_digest 190 = .ok (.if_icmp .ge 40, 3) := by decide +kernel
theorem dX8_digest_193 : decode cX8_digest 193 = .ok (.iconst 0, 1) := by decide +kernel
theorem dX8_digest_194 : decode cX8_digest 194 = .ok (.istore 4, 2) := by decide +kernel
theorem dX8_digest_196 : decode cX8_digest 196 = .ok (.iload 4, 2) := by decide +kernel
theorem dX8_digest_198 : decode cX8_digest 198 = .ok (.bipush 12, 2) := by decide +kernel
theorem dX8_digest_200 : decode cX8_digest 200 = .ok (.if_icmp .ge 24, 3) := by decide +kernel
theorem dX8_digest_203 : decode cX8_digest 203 = .ok (.ldc2_w 171, 3) := by decide +kernel
theorem dX8_digest_206 : decode cX8_digest 206 = .ok (.lload_n 1, 1) := by decide +kernel
theorem dX8_digest_207 : decode cX8_digest 207 = .ok (.lmul, 1) := by decide +kernel
theorem dX8_digest_208 : decode cX8_digest 208 = .ok (.aload_n 0, 1) := by decide +kernel
theorem dX8_digest_209 : decode cX8_digest 209 = .ok (.iload_n 3, 1) := by decide +kernel
theorem dX8_digest_210 : decode cX8_digest 210 = .ok (.iload 4, 2) := by decide +kernel
theorem dX8_digest_212 : decode cX8_digest 212 = .ok (.invokevirtual 123, 3) := by decide +kernel
theorem dX8_digest_215 : decode cX8_digest 215 = .ok (.i2l, 1) := by decide +kernel
theorem dX8_digest_216 : decode cX8_digest 216 = .ok (.ladd, 1) := by decide +kernel
theorem dX8_digest_217 : decode cX8_digest 217 = .ok (.lstore_n 1, 1) := by decide +kernel
theorem dX8_digest_218 : decode cX8_digest 218 = .ok (.iinc 4 1, 3) := by decide +kernel
theorem dX8_digest_221 : decode cX8_digest 221 = .ok (.goto (-25), 3) := by decide +kernel
theorem dX8_digest_224 : decode cX8_digest 224 = .ok (.iinc 3 1, 3) := by decide +kernel
theorem dX8_digest_227 : decode cX8_digest 227 = .ok (.goto (-45), 3) := by decide +kernel
theorem dX8_digest_230 : decode cX8_digest 230 = .ok (.ldc2_w 171, 3) := by decide +kernel
theorem dX8_digest_233 : decode cX8_digest 233 = .ok (.lload_n 1, 1) := by decide +kernel
theorem dX8_digest_234 : decode cX8_digest 234 = .ok (.lmul, 1) := by decide +kernel
theorem dX8_digest_235 : decode cX8_digest 235 = .ok (.aload_n 0, 1) := by decide +kernel
theorem dX8_digest_236 : decode cX8_digest 236 = .ok (.invokevirtual 129, 3) := by decide +kernel
theorem dX8_digest_239 : decode cX8_digest 239 = .ok (.i2l, 1) := by decide +kernel
theorem dX8_digest_240 : decode cX8_digest 240 = .ok (.ladd, 1) := by decide +kernel
theorem dX8_digest_241 : decode cX8_digest 241 = .ok (.lstore_n 1, 1) := by decide +kernel
theorem dX8_digest_242 : decode cX8_digest 242 = .ok (.ldc2_w 171, 3) := by decide +kernel
theorem dX8_digest_245 : decode cX8_digest 245 = .ok (.lload_n 1, 1) := by decide +kernel
theorem dX8_digest_246 : decode cX8_digest 246 = .ok (.lmul, 1) := by decide +kernel
theorem dX8_digest_247 : decode cX8_digest 247 = .ok (.aload_n 0, 1) := by decide +kernel
theorem dX8_digest_248 : decode cX8_digest 248 = .ok (.invokevirtual 132, 3) := by decide +kernel
theorem dX8_digest_251 : decode cX8_digest 251 = .ok (.i2l, 1) := by decide +kernel
theorem dX8_digest_252 : decode cX8_digest 252 = .ok (.ladd, 1) := by decide +kernel
theorem dX8_digest_253 : decode cX8_digest 253 = .ok (.lstore_n 1, 1) := by decide +kernel
theorem dX8_digest_254 : decode cX8_digest 254 = .ok (.ldc2_w 171, 3) := by decide +kernel
theorem dX8_digest_257 : decode cX8_digest 257 = .ok (.lload_n 1, 1) := by decide +kernel
theorem dX8_digest_258 : decode cX8_digest 258 = .ok (.lmul, 1) := by decide +kernel
theorem dX8_digest_259 : decode cX8_digest 259 = .ok (.aload_n 0, 1) := by decide +kernel
theorem dX8_digest_260 : decode cX8_digest 260 = .ok (.invokevirtual 135, 3) := by decide +kernel
theorem dX8_digest_263 : decode cX8_digest 263 = .ok (.i2l, 1) := by decide +kernel
theorem dX8_digest_264 : decode cX8_digest 264 = .ok (.ladd, 1) := by decide +kernel
theorem dX8_digest_265 : decode cX8_digest 265 = .ok (.lstore_n 1, 1) := by decide +kernel
theorem dX8_digest_266 : decode cX8_digest 266 = .ok (.ldc2_w 171, 3) := by decide +kernel
theorem dX8_digest_269 : decode cX8_digest 269 = .ok (.lload_n 1, 1) := by decide +kernel
theorem dX8_digest_270 : decode cX8_digest 270 = .ok (.lmul, 1) := by decide +kernel
theorem dX8_digest_271 : decode cX8_digest 271 = .ok (.aload_n 0, 1) := by decide +kernel
theorem dX8_digest_272 : decode cX8_digest 272 = .ok (.invokevirtual 138, 3) := by decide +kernel
theorem dX8_digest_275 : decode cX8_digest 275 = .ok (.i2l, 1) := by decide +kernel
theorem dX8_digest_276 : decode cX8_digest 276 = .ok (.ladd, 1) := by decide +kernel
theorem dX8_digest_277 : decode cX8_digest 277 = .ok (.lreturn, 1) := by decide +kernel
end
section
def gT : List Cond := lw_tbl.filter goodWord
theorem gT_t {i : Nat} {w : Cond} (h : tables_1[i]? = some w) (hg : goodWord w = true) : w ∈ gT := List.mem_filter.mpr ⟨List.mem_append_right _ (List.mem_of_getElem? h), hg⟩
theorem gT_p {i : Nat} {w : Cond} (h : (k2_sels lw_privs)[i]? = some w) (hg : goodWord w = true) : w ∈ gT := List.mem_filter.mpr ⟨List.mem_append_left _ (List.mem_of_getElem? h), hg⟩
theorem gT_good {w : Cond} (h : w ∈ gT) : goodWord w = true := (List.mem_filter.mp h).2
theorem gT_tbl {w : Cond} (h : w ∈ gT) : w ∈ lw_tbl := (List.mem_filter.mp h).1
theorem m_ini_L : Cond.initialized RL ∈ gT := gT_t (i := 0) (by decide +kernel) (by decide +kernel)
theorem m_ini_X7 : Cond.initialized RX7 ∈ gT := gT_t (i := 1) (by decide +kernel) (by decide +kernel)
theorem m_ini_X4 : Cond.initialized RX4 ∈ gT := gT_t (i := 2) (by decide +kernel) (by decide +kernel)
theorem m_ini_X3 : Cond.initialized RX3 ∈ gT := gT_t (i := 3) (by decide +kernel) (by decide +kernel)
theorem m_ini_X5 : Cond.initialized RX5 ∈ gT := gT_t (i := 4) (by decide +kernel) (by decide +kernel)
theorem m_ini_X6 : Cond.initialized RX6 ∈ gT := gT_t (i := 5) (by decide +kernel) (by decide +kernel)
theorem m_ini_X1 : Cond.initialized RX1 ∈ gT := gT_t (i := 6) (by decide +kernel) (by decide +kernel)
theorem m_ini_X2 : Cond.initialized RX2 ∈ gT := gT_t (i := 7) (by decide +kernel) (by decide +kernel)
theorem m_ini_X0 : Cond.initialized RX0 ∈ gT := gT_t (i := 8) (by decide +kernel) (by decide +kernel)
theorem m_ini_X8 : Cond.initialized RX8 ∈ gT := gT_t (i := 9) (by decide +kernel) (by decide +kernel)
theorem m_ini_J9 : Cond.initialized RJ9 ∈ gT := gT_t (i := 10) (by decide +kernel) (by decide +kernel)
theorem m_ini_J10 : Cond.initialized RJ10 ∈ gT := gT_t (i := 11) (by decide +kernel) (by decide +kernel)
theorem m_cl_L_7 : Cond.classLink RL 7 RX7 ∈ gT := gT_t (i := 12) (by decide +kernel) (by decide +kernel)
theorem m_is_X7 : Cond.instantiable RX7 8 ∈ gT := gT_t (i := 13) (by decide +kernel) (by decide +kernel)
theorem m_ml_L_9 : Cond.methodLink RL 9 yX7_init ∈ gT := gT_t (i := 14) (by decide +kernel) (by decide +kernel)
theorem m_in_X7_init : Cond.instanceMethod yX7_init ∈ gT := gT_t (i := 15) (by decide +kernel) (by decide +kernel)
theorem m_co_X7_init : Cond.code yX7_init cX7_init 2 none ∈ gT := gT_t (i := 16) (by decide +kernel) (by decide +kernel)
theorem m_ml_X7_3 : Cond.methodLink RX7 3 objectInit ∈ gT := gT_t (i := 17) (by decide +kernel) (by decide +kernel)
theorem m_in_init : Cond.instanceMethod objectInit ∈ gT := gT_t (i := 18) (by decide +kernel) (by decide +kernel)
theorem m_co_init : Cond.code objectInit ⟨#[0xb1]⟩ 1 none ∈ gT := gT_t (i := 19) (by decide +kernel) (by decide +kernel)
theorem m_cl_X7_9 : Cond.classLink RX7 9 RX4 ∈ gT := gT_t (i := 20) (by decide +kernel) (by decide +kernel)
theorem m_is_X4 : Cond.instantiable RX4 7 ∈ gT := gT_t (i := 21) (by decide +kernel) (by decide +kernel)
theorem m_in_X4_init : Cond.instanceMethod yX4_init ∈ gT := gT_t (i := 23) (by decide +kernel) (by decide +kernel)
theorem m_co_X4_init : Cond.code yX4_init cX4_init 1 none ∈ gT := gT_t (i := 24) (by decide +kernel) (by decide +kernel)
theorem m_ml_X4_3 : Cond.methodLink RX4 3 objectInit ∈ gT := gT_t (i := 25) (by decide +kernel) (by decide +kernel)
theorem m_cl_X4_9 : Cond.classLink RX4 9 RX3 ∈ gT := gT_t (i := 26) (by decide +kernel) (by decide +kernel)
theorem m_is_X3 : Cond.instantiable RX3 6 ∈ gT := gT_t (i := 27) (by decide +kernel) (by decide +kernel)
theorem m_in_X3_init : Cond.instanceMethod yX3_init ∈ gT := gT_t (i := 29) (by decide +kernel) (by decide +kernel)
theorem m_co_X3_init : Cond.code yX3_init cX3_init 1 none ∈ gT := gT_t (i := 30) (by decide +kernel) (by decide +kernel)
theorem m_ml_X3_3 : Cond.methodLink RX3 3 objectInit ∈ gT := gT_t (i := 31) (by decide +kernel) (by decide +kernel)
theorem m_cl_X3_9 : Cond.classLink RX3 9 RX5 ∈ gT := gT_t (i := 32) (by decide +kernel) (by decide +kernel)
theorem m_is_X5 : Cond.instantiable RX5 4 ∈ gT := gT_t (i := 33) (by decide +kernel) (by decide +kernel)
theorem m_ml_X3_11 : Cond.methodLink RX3 11 yX5_init ∈ gT := gT_t (i := 34) (by decide +kernel) (by decide +kernel)
theorem m_in_X5_init : Cond.instanceMethod yX5_init ∈ gT := gT_t (i := 35) (by decide +kernel) (by decide +kernel)
theorem m_co_X5_init : Cond.code yX5_init cX5_init 2 none ∈ gT := gT_t (i := 36) (by decide +kernel) (by decide +kernel)
theorem m_ml_X5_3 : Cond.methodLink RX5 3 objectInit ∈ gT := gT_t (i := 37) (by decide +kernel) (by decide +kernel)
theorem m_fl_X5_9 : Cond.fieldLink RX5 9 RX5 (TX5 0).2.1 (TX5 0).2.2.1 ∈ gT := gT_t (i := 38) (by decide +kernel) (by decide +kernel)
theorem m_fl_X7_97 : Cond.fieldLink RX7 97 RX5 (TX5 0).2.1 (TX5 0).2.2.1 ∈ gT := gT_t (i := 39) (by decide +kernel) (by decide +kernel)
theorem m_fl_X5_15 : Cond.fieldLink RX5 15 RX5 (TX5 1).2.1 (TX5 1).2.2.1 ∈ gT := gT_t (i := 40) (by decide +kernel) (by decide +kernel)
theorem m_fl_X7_94 : Cond.fieldLink RX7 94 RX5 (TX5 1).2.1 (TX5 1).2.2.1 ∈ gT := gT_t (i := 41) (by decide +kernel) (by decide +kernel)
theorem m_fl_X5_18 : Cond.fieldLink RX5 18 RX5 (TX5 2).2.1 (TX5 2).2.2.1 ∈ gT := gT_t (i := 42) (by decide +kernel) (by decide +kernel)
theorem m_fl_X7_83 : Cond.fieldLink RX7 83 RX5 (TX5 2).2.1 (TX5 2).2.2.1 ∈ gT := gT_t (i := 43) (by decide +kernel) (by decide +kernel)
theorem m_fl_X5_21 : Cond.fieldLink RX5 21 RX5 (TX5 3).2.1 (TX5 3).2.2.1 ∈ gT := gT_t (i := 44) (by decide +kernel) (by decide +kernel)
theorem m_fl_X7_87 : Cond.fieldLink RX7 87 RX5 (TX5 3).2.1 (TX5 3).2.2.1 ∈ gT := gT_t (i := 45) (by decide +kernel) (by decide +kernel)
theorem m_ac_int : Cond.arrayClass .int ∈ gT := gT_t (i := 55) (by decide +kernel) (by decide +kernel)
theorem m_cl_X3_18 : Cond.classLink RX3 18 RX6 ∈ gT := gT_t (i := 56) (by decide +kernel) (by decide +kernel)
theorem m_is_X6 : Cond.instantiable RX6 2 ∈ gT := gT_t (i := 57) (by decide +kernel) (by decide +kernel)
theorem m_ml_X3_20 : Cond.methodLink RX3 20 yX6_init ∈ gT := gT_t (i := 58) (by decide +kernel) (by decide +kernel)
theorem m_in_X6_init : Cond.instanceMethod yX6_init ∈ gT := gT_t (i := 59) (by decide +kernel) (by decide +kernel)
theorem m_co_X6_init : Cond.code yX6_init cX6_init 2 none ∈ gT := gT_t (i := 60) (by decide +kernel) (by decide +kernel)
theorem m_ml_X6_3 : Cond.methodLink RX6 3 objectInit ∈ gT := gT_t (i := 61) (by decide +kernel) (by decide +kernel)
theorem m_fl_X6_9 : Cond.fieldLink RX6 9 RX6 (TX6 0).2.1 (TX6 0).2.2.1 ∈ gT := gT_t (i := 62) (by decide +kernel) (by decide +kernel)
theorem m_fl_X7_110 : Cond.fieldLink RX7 110 RX6 (TX6 0).2.1 (TX6 0).2.2.1 ∈ gT := gT_t (i := 63) (by decide +kernel) (by decide +kernel)
theorem m_fl_X6_15 : Cond.fieldLink RX6 15 RX6 (TX6 1).2.1 (TX6 1).2.2.1 ∈ gT := gT_t (i := 64) (by decide +kernel) (by decide +kernel)
theorem m_fl_X7_115 : Cond.fieldLink RX7 115 RX6 (TX6 1).2.1 (TX6 1).2.2.1 ∈ gT := gT_t (i := 65) (by decide +kernel) (by decide +kernel)
theorem m_cl_X3_25 : Cond.classLink RX3 25 RX1 ∈ gT := gT_t (i := 71) (by decide +kernel) (by decide +kernel)
theorem m_is_X1 : Cond.instantiable RX1 5 ∈ gT := gT_t (i := 72) (by decide +kernel) (by decide +kernel)
theorem m_in_X1_init : Cond.instanceMethod yX1_init ∈ gT := gT_t (i := 74) (by decide +kernel) (by decide +kernel)
theorem m_co_X1_init : Cond.code yX1_init cX1_init 1 none ∈ gT := gT_t (i := 75) (by decide +kernel) (by decide +kernel)
theorem m_ml_X1_3 : Cond.methodLink RX1 3 objectInit ∈ gT := gT_t (i := 76) (by decide +kernel) (by decide +kernel)
theorem m_fl_X1_9 : Cond.fieldLink RX1 9 RX1 (TX1 0).2.1 (TX1 0).2.2.1 ∈ gT := gT_t (i := 77) (by decide +kernel) (by decide +kernel)
theorem m_fl_X1_15 : Cond.fieldLink RX1 15 RX1 (TX1 1).2.1 (TX1 1).2.2.1 ∈ gT := gT_t (i := 78) (by decide +kernel) (by decide +kernel)
theorem m_fl_X1_18 : Cond.fieldLink RX1 18 RX1 (TX1 2).2.1 (TX1 2).2.2.1 ∈ gT := gT_t (i := 79) (by decide +kernel) (by decide +kernel)
theorem m_fl_X1_21 : Cond.fieldLink RX1 21 RX1 (TX1 3).2.1 (TX1 3).2.2.1 ∈ gT := gT_t (i := 80) (by decide +kernel) (by decide +kernel)
theorem m_fl_X7_125 : Cond.fieldLink RX7 125 RX1 (TX1 3).2.1 (TX1 3).2.2.1 ∈ gT := gT_t (i := 81) (by decide +kernel) (by decide +kernel)
theorem m_fl_X1_25 : Cond.fieldLink RX1 25 RX1 (TX1 4).2.1 (TX1 4).2.2.1 ∈ gT := gT_t (i := 82) (by decide +kernel) (by decide +kernel)
theorem m_fl_X3_59 : Cond.fieldLink RX3 59 RX1 (TX1 4).2.1 (TX1 4).2.2.1 ∈ gT := gT_t (i := 83) (by decide +kernel) (by decide +kernel)
theorem m_fl_X2_93 : Cond.fieldLink RX2 93 RX1 (TX1 4).2.1 (TX1 4).2.2.1 ∈ gT := gT_t (i := 84) (by decide +kernel) (by decide +kernel)
theorem m_fl_X7_140 : Cond.fieldLink RX7 140 RX1 (TX1 4).2.1 (TX1 4).2.2.1 ∈ gT := gT_t (i := 85) (by decide +kernel) (by decide +kernel)
theorem m_fl_X3_12 : Cond.fieldLink RX3 12 RX3 (TX3 0).2.1 (TX3 0).2.2.1 ∈ gT := gT_t (i := 97) (by decide +kernel) (by decide +kernel)
theorem m_fl_X7_59 : Cond.fieldLink RX7 59 RX3 (TX3 0).2.1 (TX3 0).2.2.1 ∈ gT := gT_t (i := 98) (by decide +kernel) (by decide +kernel)
theorem m_fl_X2_69 : Cond.fieldLink RX2 69 RX3 (TX3 0).2.1 (TX3 0).2.2.1 ∈ gT := gT_t (i := 99) (by decide +kernel) (by decide +kernel)
theorem m_fl_X3_21 : Cond.fieldLink RX3 21 RX3 (TX3 1).2.1 (TX3 1).2.2.1 ∈ gT := gT_t (i := 100) (by decide +kernel) (by decide +kernel)
theorem m_fl_X7_106 : Cond.fieldLink RX7 106 RX3 (TX3 1).2.1 (TX3 1).2.2.1 ∈ gT := gT_t (i := 101) (by decide +kernel) (by decide +kernel)
theorem m_fl_X2_78 : Cond.fieldLink RX2 78 RX3 (TX3 1).2.1 (TX3 1).2.2.1 ∈ gT := gT_t (i := 102) (by decide +kernel) (by decide +kernel)
theorem m_fl_X3_28 : Cond.fieldLink RX3 28 RX3 (TX3 2).2.1 (TX3 2).2.2.1 ∈ gT := gT_t (i := 103) (by decide +kernel) (by decide +kernel)
theorem m_fl_X2_89 : Cond.fieldLink RX2 89 RX3 (TX3 2).2.1 (TX3 2).2.2.1 ∈ gT := gT_t (i := 104) (by decide +kernel) (by decide +kernel)
theorem m_fl_X7_121 : Cond.fieldLink RX7 121 RX3 (TX3 2).2.1 (TX3 2).2.2.1 ∈ gT := gT_t (i := 105) (by decide +kernel) (by decide +kernel)
theorem m_fl_X3_32 : Cond.fieldLink RX3 32 RX3 (TX3 3).2.1 (TX3 3).2.2.1 ∈ gT := gT_t (i := 106) (by decide +kernel) (by decide +kernel)
theorem m_fl_X7_100 : Cond.fieldLink RX7 100 RX3 (TX3 3).2.1 (TX3 3).2.2.1 ∈ gT := gT_t (i := 107) (by decide +kernel) (by decide +kernel)
theorem m_fl_X2_99 : Cond.fieldLink RX2 99 RX3 (TX3 3).2.1 (TX3 3).2.2.1 ∈ gT := gT_t (i := 108) (by decide +kernel) (by decide +kernel)
theorem m_fl_X3_36 : Cond.fieldLink RX3 36 RX3 (TX3 4).2.1 (TX3 4).2.2.1 ∈ gT := gT_t (i := 109) (by decide +kernel) (by decide +kernel)
theorem m_fl_X7_118 : Cond.fieldLink RX7 118 RX3 (TX3 4).2.1 (TX3 4).2.2.1 ∈ gT := gT_t (i := 110) (by decide +kernel) (by decide +kernel)
theorem m_fl_X3_40 : Cond.fieldLink RX3 40 RX3 (TX3 5).2.1 (TX3 5).2.2.1 ∈ gT := gT_t (i := 111) (by decide +kernel) (by decide +kernel)
theorem m_fl_X2_97 : Cond.fieldLink RX2 97 RX3 (TX3 5).2.1 (TX3 5).2.2.1 ∈ gT := gT_t (i := 112) (by decide +kernel) (by decide +kernel)
theorem m_fl_X7_160 : Cond.fieldLink RX7 160 RX3 (TX3 5).2.1 (TX3 5).2.2.1 ∈ gT := gT_t (i := 113) (by decide +kernel) (by decide +kernel)
theorem m_cl_X4_18 : Cond.classLink RX4 18 RX2 ∈ gT := gT_t (i := 127) (by decide +kernel) (by decide +kernel)
theorem m_is_X2 : Cond.instantiable RX2 9 ∈ gT := gT_t (i := 128) (by decide +kernel) (by decide +kernel)
theorem m_in_X2_init : Cond.instanceMethod yX2_init ∈ gT := gT_t (i := 130) (by decide +kernel) (by decide +kernel)
theorem m_co_X2_init : Cond.code yX2_init cX2_init 1 none ∈ gT := gT_t (i := 131) (by decide +kernel) (by decide +kernel)
theorem m_ml_X2_3 : Cond.methodLink RX2 3 objectInit ∈ gT := gT_t (i := 132) (by decide +kernel) (by decide +kernel)
theorem m_fl_X2_9 : Cond.fieldLink RX2 9 RX2 (TX2 0).2.1 (TX2 0).2.2.1 ∈ gT := gT_t (i := 133) (by decide +kernel) (by decide +kernel)
theorem m_fl_X2_15 : Cond.fieldLink RX2 15 RX2 (TX2 1).2.1 (TX2 1).2.2.1 ∈ gT := gT_t (i := 134) (by decide +kernel) (by decide +kernel)
theorem m_fl_X2_18 : Cond.fieldLink RX2 18 RX2 (TX2 2).2.1 (TX2 2).2.2.1 ∈ gT := gT_t (i := 135) (by decide +kernel) (by decide +kernel)
theorem m_fl_X2_21 : Cond.fieldLink RX2 21 RX2 (TX2 3).2.1 (TX2 3).2.2.1 ∈ gT := gT_t (i := 136) (by decide +kernel) (by decide +kernel)
theorem m_fl_X2_24 : Cond.fieldLink RX2 24 RX2 (TX2 4).2.1 (TX2 4).2.2.1 ∈ gT := gT_t (i := 137) (by decide +kernel) (by decide +kernel)
theorem m_fl_X2_27 : Cond.fieldLink RX2 27 RX2 (TX2 5).2.1 (TX2 5).2.2.1 ∈ gT := gT_t (i := 138) (by decide +kernel) (by decide +kernel)
theorem m_fl_X2_30 : Cond.fieldLink RX2 30 RX2 (TX2 6).2.1 (TX2 6).2.2.1 ∈ gT := gT_t (i := 139) (by decide +kernel) (by decide +kernel)
theorem m_fl_X2_33 : Cond.fieldLink RX2 33 RX2 (TX2 7).2.1 (TX2 7).2.2.1 ∈ gT := gT_t (i := 140) (by decide +kernel) (by decide +kernel)
theorem m_fl_X7_170 : Cond.fieldLink RX7 170 RX2 (TX2 7).2.1 (TX2 7).2.2.1 ∈ gT := gT_t (i := 141) (by decide +kernel) (by decide +kernel)
theorem m_fl_X2_37 : Cond.fieldLink RX2 37 RX2 (TX2 8).2.1 (TX2 8).2.2.1 ∈ gT := gT_t (i := 142) (by decide +kernel) (by decide +kernel)
theorem m_fl_X4_12 : Cond.fieldLink RX4 12 RX4 (TX4 0).2.1 (TX4 0).2.2.1 ∈ gT := gT_t (i := 162) (by decide +kernel) (by decide +kernel)
theorem m_fl_X7_56 : Cond.fieldLink RX7 56 RX4 (TX4 0).2.1 (TX4 0).2.2.1 ∈ gT := gT_t (i := 163) (by decide +kernel) (by decide +kernel)
theorem m_fl_X4_21 : Cond.fieldLink RX4 21 RX4 (TX4 1).2.1 (TX4 1).2.2.1 ∈ gT := gT_t (i := 164) (by decide +kernel) (by decide +kernel)
theorem m_fl_X7_166 : Cond.fieldLink RX7 166 RX4 (TX4 1).2.1 (TX4 1).2.2.1 ∈ gT := gT_t (i := 165) (by decide +kernel) (by decide +kernel)
theorem m_fl_X4_25 : Cond.fieldLink RX4 25 RX4 (TX4 2).2.1 (TX4 2).2.2.1 ∈ gT := gT_t (i := 166) (by decide +kernel) (by decide +kernel)
theorem m_fl_X7_163 : Cond.fieldLink RX7 163 RX4 (TX4 2).2.1 (TX4 2).2.2.1 ∈ gT := gT_t (i := 167) (by decide +kernel) (by decide +kernel)
theorem m_fl_X4_29 : Cond.fieldLink RX4 29 RX4 (TX4 3).2.1 (TX4 3).2.2.1 ∈ gT := gT_t (i := 168) (by decide +kernel) (by decide +kernel)
theorem m_fl_X7_154 : Cond.fieldLink RX7 154 RX4 (TX4 3).2.1 (TX4 3).2.2.1 ∈ gT := gT_t (i := 169) (by decide +kernel) (by decide +kernel)
theorem m_fl_X4_32 : Cond.fieldLink RX4 32 RX4 (TX4 4).2.1 (TX4 4).2.2.1 ∈ gT := gT_t (i := 170) (by decide +kernel) (by decide +kernel)
theorem m_fl_X7_175 : Cond.fieldLink RX7 175 RX4 (TX4 4).2.1 (TX4 4).2.2.1 ∈ gT := gT_t (i := 171) (by decide +kernel) (by decide +kernel)
theorem m_fl_X4_35 : Cond.fieldLink RX4 35 RX4 (TX4 5).2.1 (TX4 5).2.2.1 ∈ gT := gT_t (i := 172) (by decide +kernel) (by decide +kernel)
theorem m_fl_X7_178 : Cond.fieldLink RX7 178 RX4 (TX4 5).2.1 (TX4 5).2.2.1 ∈ gT := gT_t (i := 173) (by decide +kernel) (by decide +kernel)
theorem m_fl_X4_38 : Cond.fieldLink RX4 38 RX4 (TX4 6).2.1 (TX4 6).2.2.1 ∈ gT := gT_t (i := 174) (by decide +kernel) (by decide +kernel)
theorem m_fl_X7_181 : Cond.fieldLink RX7 181 RX4 (TX4 6).2.1 (TX4 6).2.2.1 ∈ gT := gT_t (i := 175) (by decide +kernel) (by decide +kernel)
theorem m_cl_X7_27 : Cond.classLink RX7 27 RX3 ∈ gT := gT_t (i := 192) (by decide +kernel) (by decide +kernel)
theorem m_cl_X7_34 : Cond.classLink RX7 34 RX0 ∈ gT := gT_t (i := 194) (by decide +kernel) (by decide +kernel)
theorem m_is_X0 : Cond.instantiable RX0 5 ∈ gT := gT_t (i := 195) (by decide +kernel) (by decide +kernel)
theorem m_in_X0_init : Cond.instanceMethod yX0_init ∈ gT := gT_t (i := 197) (by decide +kernel) (by decide +kernel)
theorem m_co_X0_init : Cond.code yX0_init cX0_init 1 none ∈ gT := gT_t (i := 198) (by decide +kernel) (by decide +kernel)
theorem m_ml_X0_3 : Cond.methodLink RX0 3 objectInit ∈ gT := gT_t (i := 199) (by decide +kernel) (by decide +kernel)
theorem m_fl_X0_9 : Cond.fieldLink RX0 9 RX0 (TX0 0).2.1 (TX0 0).2.2.1 ∈ gT := gT_t (i := 200) (by decide +kernel) (by decide +kernel)
theorem m_fl_X7_239 : Cond.fieldLink RX7 239 RX0 (TX0 0).2.1 (TX0 0).2.2.1 ∈ gT := gT_t (i := 201) (by decide +kernel) (by decide +kernel)
theorem m_fl_X0_15 : Cond.fieldLink RX0 15 RX0 (TX0 1).2.1 (TX0 1).2.2.1 ∈ gT := gT_t (i := 202) (by decide +kernel) (by decide +kernel)
theorem m_fl_X7_242 : Cond.fieldLink RX7 242 RX0 (TX0 1).2.1 (TX0 1).2.2.1 ∈ gT := gT_t (i := 203) (by decide +kernel) (by decide +kernel)
theorem m_fl_X0_18 : Cond.fieldLink RX0 18 RX0 (TX0 2).2.1 (TX0 2).2.2.1 ∈ gT := gT_t (i := 204) (by decide +kernel) (by decide +kernel)
theorem m_fl_X7_245 : Cond.fieldLink RX7 245 RX0 (TX0 2).2.1 (TX0 2).2.2.1 ∈ gT := gT_t (i := 205) (by decide +kernel) (by decide +kernel)
theorem m_fl_X0_21 : Cond.fieldLink RX0 21 RX0 (TX0 3).2.1 (TX0 3).2.2.1 ∈ gT := gT_t (i := 206) (by decide +kernel) (by decide +kernel)
theorem m_fl_X0_24 : Cond.fieldLink RX0 24 RX0 (TX0 4).2.1 (TX0 4).2.2.1 ∈ gT := gT_t (i := 207) (by decide +kernel) (by decide +kernel)
theorem m_fl_X7_12 : Cond.fieldLink RX7 12 RX7 (TX7 0).2.1 (TX7 0).2.2.1 ∈ gT := gT_t (i := 219) (by decide +kernel) (by decide +kernel)
theorem m_fl_X7_16 : Cond.fieldLink RX7 16 RX7 (TX7 1).2.1 (TX7 1).2.2.1 ∈ gT := gT_t (i := 220) (by decide +kernel) (by decide +kernel)
theorem m_fl_X7_20 : Cond.fieldLink RX7 20 RX7 (TX7 2).2.1 (TX7 2).2.2.1 ∈ gT := gT_t (i := 221) (by decide +kernel) (by decide +kernel)
theorem m_fl_X7_24 : Cond.fieldLink RX7 24 RX7 (TX7 3).2.1 (TX7 3).2.2.1 ∈ gT := gT_t (i := 222) (by decide +kernel) (by decide +kernel)
theorem m_fl_X7_30 : Cond.fieldLink RX7 30 RX7 (TX7 4).2.1 (TX7 4).2.2.1 ∈ gT := gT_t (i := 223) (by decide +kernel) (by decide +kernel)
theorem m_fl_X7_37 : Cond.fieldLink RX7 37 RX7 (TX7 5).2.1 (TX7 5).2.2.1 ∈ gT := gT_t (i := 224) (by decide +kernel) (by decide +kernel)
theorem m_fl_X7_41 : Cond.fieldLink RX7 41 RX7 (TX7 6).2.1 (TX7 6).2.2.1 ∈ gT := gT_t (i := 225) (by decide +kernel) (by decide +kernel)
theorem m_fl_X7_45 : Cond.fieldLink RX7 45 RX7 (TX7 7).2.1 (TX7 7).2.2.1 ∈ gT := gT_t (i := 226) (by decide +kernel) (by decide +kernel)
theorem m_ac_char : Cond.arrayClass .char ∈ gT := gT_t (i := 244) (by decide +kernel) (by decide +kernel)
theorem m_ml_L_13 : Cond.methodLink RL 13 yX7_putIn ∈ gT := gT_t (i := 245) (by decide +kernel) (by decide +kernel)
theorem m_in_X7_putIn : Cond.instanceMethod yX7_putIn ∈ gT := gT_t (i := 246) (by decide +kernel) (by decide +kernel)
theorem m_se_X7_putIn : Cond.selects RX7 yX7_putIn yX7_putIn ∈ gT := gT_t (i := 247) (by decide +kernel) (by decide +kernel)
theorem m_co_X7_putIn : Cond.code yX7_putIn cX7_putIn 5 (some .int) ∈ gT := gT_t (i := 248) (by decide +kernel) (by decide +kernel)
theorem m_ml_X7_48 : Cond.methodLink RX7 48 yX7_isShuttle ∈ gT := gT_t (i := 249) (by decide +kernel) (by decide +kernel)
theorem m_st_X7_isShuttle : Cond.static yX7_isShuttle ∈ gT := gT_t (i := 250) (by decide +kernel) (by decide +kernel)
theorem m_co_X7_isShuttle : Cond.code yX7_isShuttle cX7_isShuttle 1 (some .boolean) ∈ gT := gT_t (i := 251) (by decide +kernel) (by decide +kernel)
theorem m_ml_X7_90 : Cond.methodLink RX7 90 yX7_isWithin ∈ gT := gT_t (i := 252) (by decide +kernel) (by decide +kernel)
theorem m_st_X7_isWithin : Cond.static yX7_isWithin ∈ gT := gT_t (i := 253) (by decide +kernel) (by decide +kernel)
theorem m_co_X7_isWithin : Cond.code yX7_isWithin cX7_isWithin 3 (some .boolean) ∈ gT := gT_t (i := 254) (by decide +kernel) (by decide +kernel)
theorem m_ml_X7_52 : Cond.methodLink RX7 52 yX7_isBox ∈ gT := gT_t (i := 255) (by decide +kernel) (by decide +kernel)
theorem m_st_X7_isBox : Cond.static yX7_isBox ∈ gT := gT_t (i := 256) (by decide +kernel) (by decide +kernel)
theorem m_co_X7_isBox : Cond.code yX7_isBox cX7_isBox 2 (some .boolean) ∈ gT := gT_t (i := 257) (by decide +kernel) (by decide +kernel)
theorem m_ml_X7_63 : Cond.methodLink RX7 63 yX5_isInDrawer ∈ gT := gT_t (i := 258) (by decide +kernel) (by decide +kernel)
theorem m_in_X5_isInDrawer : Cond.instanceMethod yX5_isInDrawer ∈ gT := gT_t (i := 259) (by decide +kernel) (by decide +kernel)
theorem m_se_X5_isInDrawer : Cond.selects RX5 yX5_isInDrawer yX5_isInDrawer ∈ gT := gT_t (i := 260) (by decide +kernel) (by decide +kernel)
theorem m_co_X5_isInDrawer : Cond.code yX5_isInDrawer cX5_isInDrawer 2 (some .boolean) ∈ gT := gT_t (i := 261) (by decide +kernel) (by decide +kernel)
theorem m_ml_X7_68 : Cond.methodLink RX7 68 yX5_findIn ∈ gT := gT_t (i := 263) (by decide +kernel) (by decide +kernel)
theorem m_in_X5_findIn : Cond.instanceMethod yX5_findIn ∈ gT := gT_t (i := 264) (by decide +kernel) (by decide +kernel)
theorem m_se_X5_findIn : Cond.selects RX5 yX5_findIn yX5_findIn ∈ gT := gT_t (i := 265) (by decide +kernel) (by decide +kernel)
theorem m_co_X5_findIn : Cond.code yX5_findIn cX5_findIn 4 (some .int) ∈ gT := gT_t (i := 266) (by decide +kernel) (by decide +kernel)
theorem m_ml_X7_72 : Cond.methodLink RX7 72 yX7_saveBeforeChange ∈ gT := gT_t (i := 267) (by decide +kernel) (by decide +kernel)
theorem m_in_X7_saveBeforeChange : Cond.instanceMethod yX7_saveBeforeChange ∈ gT := gT_t (i := 269) (by decide +kernel) (by decide +kernel)
theorem m_co_X7_saveBeforeChange : Cond.code yX7_saveBeforeChange cX7_saveBeforeChange 1 none ∈ gT := gT_t (i := 270) (by decide +kernel) (by decide +kernel)
theorem m_ml_X7_142 : Cond.methodLink RX7 142 yX7_save ∈ gT := gT_t (i := 271) (by decide +kernel) (by decide +kernel)
theorem m_in_X7_save : Cond.instanceMethod yX7_save ∈ gT := gT_t (i := 273) (by decide +kernel) (by decide +kernel)
theorem m_co_X7_save : Cond.code yX7_save cX7_save 1 none ∈ gT := gT_t (i := 274) (by decide +kernel) (by decide +kernel)
theorem m_ml_X7_248 : Cond.methodLink RX7 248 yJ9_floorMod_7cf53 ∈ gT := gT_t (i := 275) (by decide +kernel) (by decide +kernel)
theorem m_st_J9_floorMod_7cf53 : Cond.static yJ9_floorMod_7cf53 ∈ gT := gT_t (i := 276) (by decide +kernel) (by decide +kernel)
theorem m_co_J9_floorMod_7cf53 : Cond.code yJ9_floorMod_7cf53 cJ9_floorMod_7cf53 3 (some .int) ∈ gT := gT_t (i := 277) (by decide +kernel) (by decide +kernel)
theorem m_ml_X7_253 : Cond.methodLink RX7 253 yX4_copyFrom ∈ gT := gT_t (i := 278) (by decide +kernel) (by decide +kernel)
theorem m_in_X4_copyFrom : Cond.instanceMethod yX4_copyFrom ∈ gT := gT_t (i := 279) (by decide +kernel) (by decide +kernel)
theorem m_se_X4_copyFrom : Cond.selects RX4 yX4_copyFrom yX4_copyFrom ∈ gT := gT_t (i := 280) (by decide +kernel) (by decide +kernel)
theorem m_co_X4_copyFrom : Cond.code yX4_copyFrom cX4_copyFrom 2 none ∈ gT := gT_t (i := 281) (by decide +kernel) (by decide +kernel)
theorem m_ml_X4_41 : Cond.methodLink RX4 41 yX3_copyFrom ∈ gT := gT_t (i := 282) (by decide +kernel) (by decide +kernel)
theorem m_in_X3_copyFrom : Cond.instanceMethod yX3_copyFrom ∈ gT := gT_t (i := 283) (by decide +kernel) (by decide +kernel)
theorem m_se_X3_copyFrom : Cond.selects RX3 yX3_copyFrom yX3_copyFrom ∈ gT := gT_t (i := 284) (by decide +kernel) (by decide +kernel)
theorem m_co_X3_copyFrom : Cond.code yX3_copyFrom cX3_copyFrom 2 none ∈ gT := gT_t (i := 285) (by decide +kernel) (by decide +kernel)
theorem m_ml_X3_43 : Cond.methodLink RX3 43 yX5_copyFrom ∈ gT := gT_t (i := 286) (by decide +kernel) (by decide +kernel)
theorem m_in_X5_copyFrom : Cond.instanceMethod yX5_copyFrom ∈ gT := gT_t (i := 287) (by decide +kernel) (by decide +kernel)
theorem m_se_X5_copyFrom : Cond.selects RX5 yX5_copyFrom yX5_copyFrom ∈ gT := gT_t (i := 288) (by decide +kernel) (by decide +kernel)
theorem m_co_X5_copyFrom : Cond.code yX5_copyFrom cX5_copyFrom 2 none ∈ gT := gT_t (i := 289) (by decide +kernel) (by decide +kernel)
theorem m_ml_X5_24 : Cond.methodLink RX5 24 arraycopyName ∈ gT := gT_t (i := 290) (by decide +kernel) (by decide +kernel)
theorem m_st_arraycopy : Cond.static arraycopyName ∈ gT := gT_t (i := 291) (by decide +kernel) (by decide +kernel)
theorem m_na_arraycopy : Cond.native arraycopyName ∈ gT := gT_t (i := 292) (by decide +kernel) (by decide +kernel)
theorem m_ml_X3_47 : Cond.methodLink RX3 47 yX6_copyFrom ∈ gT := gT_t (i := 293) (by decide +kernel) (by decide +kernel)
theorem m_in_X6_copyFrom : Cond.instanceMethod yX6_copyFrom ∈ gT := gT_t (i := 294) (by decide +kernel) (by decide +kernel)
theorem m_se_X6_copyFrom : Cond.selects RX6 yX6_copyFrom yX6_copyFrom ∈ gT := gT_t (i := 295) (by decide +kernel) (by decide +kernel)
theorem m_co_X6_copyFrom : Cond.code yX6_copyFrom cX6_copyFrom 2 none ∈ gT := gT_t (i := 296) (by decide +kernel) (by decide +kernel)
theorem m_ml_X6_18 : Cond.methodLink RX6 18 arraycopyName ∈ gT := gT_t (i := 297) (by decide +kernel) (by decide +kernel)
theorem m_ml_X3_50 : Cond.methodLink RX3 50 yX1_copyFrom ∈ gT := gT_t (i := 298) (by decide +kernel) (by decide +kernel)
theorem m_in_X1_copyFrom : Cond.instanceMethod yX1_copyFrom ∈ gT := gT_t (i := 299) (by decide +kernel) (by decide +kernel)
theorem m_se_X1_copyFrom : Cond.selects RX1 yX1_copyFrom yX1_copyFrom ∈ gT := gT_t (i := 300) (by decide +kernel) (by decide +kernel)
theorem m_co_X1_copyFrom : Cond.code yX1_copyFrom cX1_copyFrom 2 none ∈ gT := gT_t (i := 301) (by decide +kernel) (by decide +kernel)
theorem m_ml_X1_28 : Cond.methodLink RX1 28 arraycopyName ∈ gT := gT_t (i := 302) (by decide +kernel) (by decide +kernel)
theorem m_ml_X3_53 : Cond.methodLink RX3 53 arraycopyName ∈ gT := gT_t (i := 303) (by decide +kernel) (by decide +kernel)
theorem m_ml_X4_45 : Cond.methodLink RX4 45 yX2_copyFrom ∈ gT := gT_t (i := 304) (by decide +kernel) (by decide +kernel)
theorem m_in_X2_copyFrom : Cond.instanceMethod yX2_copyFrom ∈ gT := gT_t (i := 305) (by decide +kernel) (by decide +kernel)
theorem m_se_X2_copyFrom : Cond.selects RX2 yX2_copyFrom yX2_copyFrom ∈ gT := gT_t (i := 306) (by decide +kernel) (by decide +kernel)
theorem m_co_X2_copyFrom : Cond.code yX2_copyFrom cX2_copyFrom 2 none ∈ gT := gT_t (i := 307) (by decide +kernel) (by decide +kernel)
theorem m_ml_X2_40 : Cond.methodLink RX2 40 arraycopyName ∈ gT := gT_t (i := 308) (by decide +kernel) (by decide +kernel)
theorem m_ml_X7_75 : Cond.methodLink RX7 75 yX5_place ∈ gT := gT_t (i := 309) (by decide +kernel) (by decide +kernel)
theorem m_in_X5_place : Cond.instanceMethod yX5_place ∈ gT := gT_t (i := 310) (by decide +kernel) (by decide +kernel)
theorem m_se_X5_place : Cond.selects RX5 yX5_place yX5_place ∈ gT := gT_t (i := 311) (by decide +kernel) (by decide +kernel)
theorem m_co_X5_place : Cond.code yX5_place cX5_place 4 none ∈ gT := gT_t (i := 312) (by decide +kernel) (by decide +kernel)
theorem m_ml_X7_79 : Cond.methodLink RX7 79 yX5_numberInBoxes ∈ gT := gT_t (i := 313) (by decide +kernel) (by decide +kernel)
theorem m_in_X5_numberInBoxes : Cond.instanceMethod yX5_numberInBoxes ∈ gT := gT_t (i := 314) (by decide +kernel) (by decide +kernel)
theorem m_se_X5_numberInBoxes : Cond.selects RX5 yX5_numberInBoxes yX5_numberInBoxes ∈ gT := gT_t (i := 315) (by decide +kernel) (by decide +kernel)
theorem m_co_X5_numberInBoxes : Cond.code yX5_numberInBoxes cX5_numberInBoxes 3 (some .int) ∈ gT := gT_t (i := 316) (by decide +kernel) (by decide +kernel)
theorem m_ml_L_18 : Cond.methodLink RL 18 yX7_takeOut ∈ gT := gT_t (i := 317) (by decide +kernel) (by decide +kernel)
theorem m_in_X7_takeOut : Cond.instanceMethod yX7_takeOut ∈ gT := gT_t (i := 318) (by decide +kernel) (by decide +kernel)
theorem m_se_X7_takeOut : Cond.selects RX7 yX7_takeOut yX7_takeOut ∈ gT := gT_t (i := 319) (by decide +kernel) (by decide +kernel)
theorem m_co_X7_takeOut : Cond.code yX7_takeOut cX7_takeOut 4 (some .int) ∈ gT := gT_t (i := 320) (by decide +kernel) (by decide +kernel)
theorem m_ml_L_23 : Cond.methodLink RL 23 yX7_wind ∈ gT := gT_t (i := 321) (by decide +kernel) (by decide +kernel)
theorem m_in_X7_wind : Cond.instanceMethod yX7_wind ∈ gT := gT_t (i := 322) (by decide +kernel) (by decide +kernel)
theorem m_se_X7_wind : Cond.selects RX7 yX7_wind yX7_wind ∈ gT := gT_t (i := 323) (by decide +kernel) (by decide +kernel)
theorem m_co_X7_wind : Cond.code yX7_wind cX7_wind 6 (some .int) ∈ gT := gT_t (i := 324) (by decide +kernel) (by decide +kernel)
theorem m_ml_L_27 : Cond.methodLink RL 27 yX7_moveBoxes ∈ gT := gT_t (i := 325) (by decide +kernel) (by decide +kernel)
theorem m_in_X7_moveBoxes : Cond.instanceMethod yX7_moveBoxes ∈ gT := gT_t (i := 326) (by decide +kernel) (by decide +kernel)
theorem m_se_X7_moveBoxes : Cond.selects RX7 yX7_moveBoxes yX7_moveBoxes ∈ gT := gT_t (i := 327) (by decide +kernel) (by decide +kernel)
theorem m_co_X7_moveBoxes : Cond.code yX7_moveBoxes cX7_moveBoxes 4 (some .int) ∈ gT := gT_t (i := 328) (by decide +kernel) (by decide +kernel)
theorem m_ml_L_32 : Cond.methodLink RL 32 yX7_draw ∈ gT := gT_t (i := 329) (by decide +kernel) (by decide +kernel)
theorem m_in_X7_draw : Cond.instanceMethod yX7_draw ∈ gT := gT_t (i := 330) (by decide +kernel) (by decide +kernel)
theorem m_se_X7_draw : Cond.selects RX7 yX7_draw yX7_draw ∈ gT := gT_t (i := 331) (by decide +kernel) (by decide +kernel)
theorem m_co_X7_draw : Cond.code yX7_draw cX7_draw 4 (some .int) ∈ gT := gT_t (i := 332) (by decide +kernel) (by decide +kernel)
theorem m_ml_X7_103 : Cond.methodLink RX7 103 yX7_isThread ∈ gT := gT_t (i := 333) (by decide +kernel) (by decide +kernel)
theorem m_st_X7_isThread : Cond.static yX7_isThread ∈ gT := gT_t (i := 334) (by decide +kernel) (by decide +kernel)
theorem m_co_X7_isThread : Cond.code yX7_isThread cX7_isThread 1 (some .boolean) ∈ gT := gT_t (i := 335) (by decide +kernel) (by decide +kernel)
theorem m_ml_L_36 : Cond.methodLink RL 36 yX7_mend ∈ gT := gT_t (i := 336) (by decide +kernel) (by decide +kernel)
theorem m_in_X7_mend : Cond.instanceMethod yX7_mend ∈ gT := gT_t (i := 337) (by decide +kernel) (by decide +kernel)
theorem m_se_X7_mend : Cond.selects RX7 yX7_mend yX7_mend ∈ gT := gT_t (i := 338) (by decide +kernel) (by decide +kernel)
theorem m_co_X7_mend : Cond.code yX7_mend cX7_mend 4 (some .int) ∈ gT := gT_t (i := 339) (by decide +kernel) (by decide +kernel)
theorem m_ml_L_40 : Cond.methodLink RL 40 yX7_setSpeed ∈ gT := gT_t (i := 340) (by decide +kernel) (by decide +kernel)
theorem m_in_X7_setSpeed : Cond.instanceMethod yX7_setSpeed ∈ gT := gT_t (i := 341) (by decide +kernel) (by decide +kernel)
theorem m_se_X7_setSpeed : Cond.selects RX7 yX7_setSpeed yX7_setSpeed ∈ gT := gT_t (i := 342) (by decide +kernel) (by decide +kernel)
theorem m_co_X7_setSpeed : Cond.code yX7_setSpeed cX7_setSpeed 3 (some .int) ∈ gT := gT_t (i := 343) (by decide +kernel) (by decide +kernel)
theorem m_ml_L_44 : Cond.methodLink RL 44 yX7_addCard ∈ gT := gT_t (i := 344) (by decide +kernel) (by decide +kernel)
theorem m_in_X7_addCard : Cond.instanceMethod yX7_addCard ∈ gT := gT_t (i := 345) (by decide +kernel) (by decide +kernel)
theorem m_se_X7_addCard : Cond.selects RX7 yX7_addCard yX7_addCard ∈ gT := gT_t (i := 346) (by decide +kernel) (by decide +kernel)
theorem m_co_X7_addCard : Cond.code yX7_addCard cX7_addCard 5 (some .int) ∈ gT := gT_t (i := 347) (by decide +kernel) (by decide +kernel)
theorem m_ml_X7_130 : Cond.methodLink RX7 130 yX1_append ∈ gT := gT_t (i := 348) (by decide +kernel) (by decide +kernel)
theorem m_in_X1_append : Cond.instanceMethod yX1_append ∈ gT := gT_t (i := 349) (by decide +kernel) (by decide +kernel)
theorem m_se_X1_append : Cond.selects RX1 yX1_append yX1_append ∈ gT := gT_t (i := 350) (by decide +kernel) (by decide +kernel)
theorem m_co_X1_append : Cond.code yX1_append cX1_append 4 none ∈ gT := gT_t (i := 351) (by decide +kernel) (by decide +kernel)
theorem m_ml_L_48 : Cond.methodLink RL 48 yX7_removeCard ∈ gT := gT_t (i := 352) (by decide +kernel) (by decide +kernel)
theorem m_in_X7_removeCard : Cond.instanceMethod yX7_removeCard ∈ gT := gT_t (i := 353) (by decide +kernel) (by decide +kernel)
theorem m_se_X7_removeCard : Cond.selects RX7 yX7_removeCard yX7_removeCard ∈ gT := gT_t (i := 354) (by decide +kernel) (by decide +kernel)
theorem m_co_X7_removeCard : Cond.code yX7_removeCard cX7_removeCard 3 (some .int) ∈ gT := gT_t (i := 355) (by decide +kernel) (by decide +kernel)
theorem m_ml_X7_133 : Cond.methodLink RX7 133 yX1_has ∈ gT := gT_t (i := 356) (by decide +kernel) (by decide +kernel)
theorem m_in_X1_has : Cond.instanceMethod yX1_has ∈ gT := gT_t (i := 357) (by decide +kernel) (by decide +kernel)
theorem m_se_X1_has : Cond.selects RX1 yX1_has yX1_has ∈ gT := gT_t (i := 358) (by decide +kernel) (by decide +kernel)
theorem m_co_X1_has : Cond.code yX1_has cX1_has 2 (some .boolean) ∈ gT := gT_t (i := 359) (by decide +kernel) (by decide +kernel)
theorem m_ml_X7_136 : Cond.methodLink RX7 136 yX1_remove ∈ gT := gT_t (i := 360) (by decide +kernel) (by decide +kernel)
theorem m_in_X1_remove : Cond.instanceMethod yX1_remove ∈ gT := gT_t (i := 361) (by decide +kernel) (by decide +kernel)
theorem m_se_X1_remove : Cond.selects RX1 yX1_remove yX1_remove ∈ gT := gT_t (i := 362) (by decide +kernel) (by decide +kernel)
theorem m_co_X1_remove : Cond.code yX1_remove cX1_remove 3 none ∈ gT := gT_t (i := 363) (by decide +kernel) (by decide +kernel)
theorem m_ml_X1_34 : Cond.methodLink RX1 34 yX1_has ∈ gT := gT_t (i := 364) (by decide +kernel) (by decide +kernel)
theorem m_ml_X1_38 : Cond.methodLink RX1 38 yX1_startAgainBehindLast ∈ gT := gT_t (i := 365) (by decide +kernel) (by decide +kernel)
theorem m_in_X1_startAgainBehindLast : Cond.instanceMethod yX1_startAgainBehindLast ∈ gT := gT_t (i := 367) (by decide +kernel) (by decide +kernel)
theorem m_co_X1_startAgainBehindLast : Cond.code yX1_startAgainBehindLast cX1_startAgainBehindLast 1 none ∈ gT := gT_t (i := 368) (by decide +kernel) (by decide +kernel)
theorem m_ml_L_52 : Cond.methodLink RL 52 yX7_turnTo ∈ gT := gT_t (i := 369) (by decide +kernel) (by decide +kernel)
theorem m_in_X7_turnTo : Cond.instanceMethod yX7_turnTo ∈ gT := gT_t (i := 370) (by decide +kernel) (by decide +kernel)
theorem m_se_X7_turnTo : Cond.selects RX7 yX7_turnTo yX7_turnTo ∈ gT := gT_t (i := 371) (by decide +kernel) (by decide +kernel)
theorem m_co_X7_turnTo : Cond.code yX7_turnTo cX7_turnTo 4 (some .int) ∈ gT := gT_t (i := 372) (by decide +kernel) (by decide +kernel)
theorem m_ml_L_56 : Cond.methodLink RL 56 yX7_weave ∈ gT := gT_t (i := 373) (by decide +kernel) (by decide +kernel)
theorem m_in_X7_weave : Cond.instanceMethod yX7_weave ∈ gT := gT_t (i := 374) (by decide +kernel) (by decide +kernel)
theorem m_se_X7_weave : Cond.selects RX7 yX7_weave yX7_weave ∈ gT := gT_t (i := 375) (by decide +kernel) (by decide +kernel)
theorem m_co_X7_weave : Cond.code yX7_weave cX7_weave 4 (some .int) ∈ gT := gT_t (i := 376) (by decide +kernel) (by decide +kernel)
theorem m_ml_X7_145 : Cond.methodLink RX7 145 yX3_reasonToStop ∈ gT := gT_t (i := 377) (by decide +kernel) (by decide +kernel)
theorem m_in_X3_reasonToStop : Cond.instanceMethod yX3_reasonToStop ∈ gT := gT_t (i := 378) (by decide +kernel) (by decide +kernel)
theorem m_se_X3_reasonToStop : Cond.selects RX3 yX3_reasonToStop yX3_reasonToStop ∈ gT := gT_t (i := 379) (by decide +kernel) (by decide +kernel)
theorem m_co_X3_reasonToStop : Cond.code yX3_reasonToStop cX3_reasonToStop 1 (some .int) ∈ gT := gT_t (i := 380) (by decide +kernel) (by decide +kernel)
theorem m_ml_X3_62 : Cond.methodLink RX3 62 yX1_has ∈ gT := gT_t (i := 381) (by decide +kernel) (by decide +kernel)
theorem m_ml_X3_66 : Cond.methodLink RX3 66 yX6_firstBroken ∈ gT := gT_t (i := 382) (by decide +kernel) (by decide +kernel)
theorem m_in_X6_firstBroken : Cond.instanceMethod yX6_firstBroken ∈ gT := gT_t (i := 383) (by decide +kernel) (by decide +kernel)
theorem m_se_X6_firstBroken : Cond.selects RX6 yX6_firstBroken yX6_firstBroken ∈ gT := gT_t (i := 384) (by decide +kernel) (by decide +kernel)
theorem m_co_X6_firstBroken : Cond.code yX6_firstBroken cX6_firstBroken 2 (some .int) ∈ gT := gT_t (i := 385) (by decide +kernel) (by decide +kernel)
theorem m_ml_X3_70 : Cond.methodLink RX3 70 yX3_sideTooFar ∈ gT := gT_t (i := 386) (by decide +kernel) (by decide +kernel)
theorem m_in_X3_sideTooFar : Cond.instanceMethod yX3_sideTooFar ∈ gT := gT_t (i := 388) (by decide +kernel) (by decide +kernel)
theorem m_co_X3_sideTooFar : Cond.code yX3_sideTooFar cX3_sideTooFar 3 (some .int) ∈ gT := gT_t (i := 389) (by decide +kernel) (by decide +kernel)
theorem m_ml_X3_89 : Cond.methodLink RX3 89 yX1_boxOf ∈ gT := gT_t (i := 390) (by decide +kernel) (by decide +kernel)
theorem m_in_X1_boxOf : Cond.instanceMethod yX1_boxOf ∈ gT := gT_t (i := 391) (by decide +kernel) (by decide +kernel)
theorem m_se_X1_boxOf : Cond.selects RX1 yX1_boxOf yX1_boxOf ∈ gT := gT_t (i := 392) (by decide +kernel) (by decide +kernel)
theorem m_co_X1_boxOf : Cond.code yX1_boxOf cX1_boxOf 3 (some .int) ∈ gT := gT_t (i := 393) (by decide +kernel) (by decide +kernel)
theorem m_ml_X3_122 : Cond.methodLink RX3 122 yJ9_abs_0f7a4 ∈ gT := gT_t (i := 394) (by decide +kernel) (by decide +kernel)
theorem m_st_J9_abs_0f7a4 : Cond.static yJ9_abs_0f7a4 ∈ gT := gT_t (i := 395) (by decide +kernel) (by decide +kernel)
theorem m_co_J9_abs_0f7a4 : Cond.code yJ9_abs_0f7a4 cJ9_abs_0f7a4 1 (some .int) ∈ gT := gT_t (i := 396) (by decide +kernel) (by decide +kernel)
theorem m_ml_X3_73 : Cond.methodLink RX3 73 yX3_reasonOfCardOrShuttle ∈ gT := gT_t (i := 397) (by decide +kernel) (by decide +kernel)
theorem m_in_X3_reasonOfCardOrShuttle : Cond.instanceMethod yX3_reasonOfCardOrShuttle ∈ gT := gT_t (i := 398) (by decide +kernel) (by decide +kernel)
theorem m_se_X3_reasonOfCardOrShuttle : Cond.selects RX3 yX3_reasonOfCardOrShuttle yX3_reasonOfCardOrShuttle ∈ gT := gT_t (i := 399) (by decide +kernel) (by decide +kernel)
theorem m_co_X3_reasonOfCardOrShuttle : Cond.code yX3_reasonOfCardOrShuttle cX3_reasonOfCardOrShuttle 3 (some .int) ∈ gT := gT_t (i := 400) (by decide +kernel) (by decide +kernel)
theorem m_ml_X3_76 : Cond.methodLink RX3 76 yX3_shuttleOn ∈ gT := gT_t (i := 401) (by decide +kernel) (by decide +kernel)
theorem m_in_X3_shuttleOn : Cond.instanceMethod yX3_shuttleOn ∈ gT := gT_t (i := 403) (by decide +kernel) (by decide +kernel)
theorem m_co_X3_shuttleOn : Cond.code yX3_shuttleOn cX3_shuttleOn 2 (some .int) ∈ gT := gT_t (i := 404) (by decide +kernel) (by decide +kernel)
theorem m_ml_X3_119 : Cond.methodLink RX3 119 yX5_findIn ∈ gT := gT_t (i := 405) (by decide +kernel) (by decide +kernel)
theorem m_ml_X3_80 : Cond.methodLink RX3 80 yX5_hasYarn ∈ gT := gT_t (i := 406) (by decide +kernel) (by decide +kernel)
theorem m_in_X5_hasYarn : Cond.instanceMethod yX5_hasYarn ∈ gT := gT_t (i := 407) (by decide +kernel) (by decide +kernel)
theorem m_se_X5_hasYarn : Cond.selects RX5 yX5_hasYarn yX5_hasYarn ∈ gT := gT_t (i := 408) (by decide +kernel) (by decide +kernel)
theorem m_co_X5_hasYarn : Cond.code yX5_hasYarn cX5_hasYarn 2 (some .boolean) ∈ gT := gT_t (i := 409) (by decide +kernel) (by decide +kernel)
theorem m_ml_X7_148 : Cond.methodLink RX7 148 yX4_noteStop ∈ gT := gT_t (i := 410) (by decide +kernel) (by decide +kernel)
theorem m_in_X4_noteStop : Cond.instanceMethod yX4_noteStop ∈ gT := gT_t (i := 411) (by decide +kernel) (by decide +kernel)
theorem m_se_X4_noteStop : Cond.selects RX4 yX4_noteStop yX4_noteStop ∈ gT := gT_t (i := 412) (by decide +kernel) (by decide +kernel)
theorem m_co_X4_noteStop : Cond.code yX4_noteStop cX4_noteStop 2 none ∈ gT := gT_t (i := 413) (by decide +kernel) (by decide +kernel)
theorem m_ml_X4_63 : Cond.methodLink RX4 63 yX3_numberTold ∈ gT := gT_t (i := 414) (by decide +kernel) (by decide +kernel)
theorem m_in_X3_numberTold : Cond.instanceMethod yX3_numberTold ∈ gT := gT_t (i := 415) (by decide +kernel) (by decide +kernel)
theorem m_se_X3_numberTold : Cond.selects RX3 yX3_numberTold yX3_numberTold ∈ gT := gT_t (i := 416) (by decide +kernel) (by decide +kernel)
theorem m_co_X3_numberTold : Cond.code yX3_numberTold cX3_numberTold 2 (some .int) ∈ gT := gT_t (i := 417) (by decide +kernel) (by decide +kernel)
theorem m_ml_X3_83 : Cond.methodLink RX3 83 yX3_flyingShuttle ∈ gT := gT_t (i := 418) (by decide +kernel) (by decide +kernel)
theorem m_in_X3_flyingShuttle : Cond.instanceMethod yX3_flyingShuttle ∈ gT := gT_t (i := 419) (by decide +kernel) (by decide +kernel)
theorem m_se_X3_flyingShuttle : Cond.selects RX3 yX3_flyingShuttle yX3_flyingShuttle ∈ gT := gT_t (i := 420) (by decide +kernel) (by decide +kernel)
theorem m_co_X3_flyingShuttle : Cond.code yX3_flyingShuttle cX3_flyingShuttle 2 (some .int) ∈ gT := gT_t (i := 421) (by decide +kernel) (by decide +kernel)
theorem m_ml_X7_151 : Cond.methodLink RX7 151 yX4_makePick ∈ gT := gT_t (i := 422) (by decide +kernel) (by decide +kernel)
theorem m_in_X4_makePick : Cond.instanceMethod yX4_makePick ∈ gT := gT_t (i := 423) (by decide +kernel) (by decide +kernel)
theorem m_se_X4_makePick : Cond.selects RX4 yX4_makePick yX4_makePick ∈ gT := gT_t (i := 424) (by decide +kernel) (by decide +kernel)
theorem m_co_X4_makePick : Cond.code yX4_makePick cX4_makePick 1 none ∈ gT := gT_t (i := 425) (by decide +kernel) (by decide +kernel)
theorem m_ml_X4_48 : Cond.methodLink RX4 48 yX2_addRowOf ∈ gT := gT_t (i := 426) (by decide +kernel) (by decide +kernel)
theorem m_in_X2_addRowOf : Cond.instanceMethod yX2_addRowOf ∈ gT := gT_t (i := 427) (by decide +kernel) (by decide +kernel)
theorem m_se_X2_addRowOf : Cond.selects RX2 yX2_addRowOf yX2_addRowOf ∈ gT := gT_t (i := 428) (by decide +kernel) (by decide +kernel)
theorem m_co_X2_addRowOf : Cond.code yX2_addRowOf cX2_addRowOf 3 none ∈ gT := gT_t (i := 429) (by decide +kernel) (by decide +kernel)
theorem m_ml_X2_46 : Cond.methodLink RX2 46 yX2_slotOf ∈ gT := gT_t (i := 430) (by decide +kernel) (by decide +kernel)
theorem m_in_X2_slotOf : Cond.instanceMethod yX2_slotOf ∈ gT := gT_t (i := 432) (by decide +kernel) (by decide +kernel)
theorem m_co_X2_slotOf : Cond.code yX2_slotOf cX2_slotOf 2 (some .int) ∈ gT := gT_t (i := 433) (by decide +kernel) (by decide +kernel)
theorem m_ml_X2_109 : Cond.methodLink RX2 109 yJ9_floorMod_7cf53 ∈ gT := gT_t (i := 434) (by decide +kernel) (by decide +kernel)
theorem m_ml_X2_63 : Cond.methodLink RX2 63 yX3_flyingShuttle ∈ gT := gT_t (i := 435) (by decide +kernel) (by decide +kernel)
theorem m_ml_X2_73 : Cond.methodLink RX2 73 yX5_colourOf ∈ gT := gT_t (i := 436) (by decide +kernel) (by decide +kernel)
theorem m_in_X5_colourOf : Cond.instanceMethod yX5_colourOf ∈ gT := gT_t (i := 437) (by decide +kernel) (by decide +kernel)
theorem m_se_X5_colourOf : Cond.selects RX5 yX5_colourOf yX5_colourOf ∈ gT := gT_t (i := 438) (by decide +kernel) (by decide +kernel)
theorem m_co_X5_colourOf : Cond.code yX5_colourOf cX5_colourOf 2 (some .int) ∈ gT := gT_t (i := 439) (by decide +kernel) (by decide +kernel)
theorem m_ml_X2_81 : Cond.methodLink RX2 81 yX3_frames ∈ gT := gT_t (i := 440) (by decide +kernel) (by decide +kernel)
theorem m_in_X3_frames : Cond.instanceMethod yX3_frames ∈ gT := gT_t (i := 441) (by decide +kernel) (by decide +kernel)
theorem m_se_X3_frames : Cond.selects RX3 yX3_frames yX3_frames ∈ gT := gT_t (i := 442) (by decide +kernel) (by decide +kernel)
theorem m_co_X3_frames : Cond.code yX3_frames cX3_frames 1 (some .int) ∈ gT := gT_t (i := 443) (by decide +kernel) (by decide +kernel)
theorem m_ml_X3_86 : Cond.methodLink RX3 86 yX1_framesOf ∈ gT := gT_t (i := 444) (by decide +kernel) (by decide +kernel)
theorem m_in_X1_framesOf : Cond.instanceMethod yX1_framesOf ∈ gT := gT_t (i := 445) (by decide +kernel) (by decide +kernel)
theorem m_se_X1_framesOf : Cond.selects RX1 yX1_framesOf yX1_framesOf ∈ gT := gT_t (i := 446) (by decide +kernel) (by decide +kernel)
theorem m_co_X1_framesOf : Cond.code yX1_framesOf cX1_framesOf 2 (some .int) ∈ gT := gT_t (i := 447) (by decide +kernel) (by decide +kernel)
theorem m_ml_X2_84 : Cond.methodLink RX2 84 yX6_inFrames ∈ gT := gT_t (i := 448) (by decide +kernel) (by decide +kernel)
theorem m_in_X6_inFrames : Cond.instanceMethod yX6_inFrames ∈ gT := gT_t (i := 449) (by decide +kernel) (by decide +kernel)
theorem m_se_X6_inFrames : Cond.selects RX6 yX6_inFrames yX6_inFrames ∈ gT := gT_t (i := 450) (by decide +kernel) (by decide +kernel)
theorem m_co_X6_inFrames : Cond.code yX6_inFrames cX6_inFrames 4 (some .int) ∈ gT := gT_t (i := 451) (by decide +kernel) (by decide +kernel)
theorem m_st_X7_contains : Cond.static yX7_contains ∈ gT := gT_t (i := 453) (by decide +kernel) (by decide +kernel)
theorem m_co_X7_contains : Cond.code yX7_contains cX7_contains 2 (some .boolean) ∈ gT := gT_t (i := 454) (by decide +kernel) (by decide +kernel)
theorem m_ml_X4_51 : Cond.methodLink RX4 51 yX3_makePick ∈ gT := gT_t (i := 455) (by decide +kernel) (by decide +kernel)
theorem m_in_X3_makePick : Cond.instanceMethod yX3_makePick ∈ gT := gT_t (i := 456) (by decide +kernel) (by decide +kernel)
theorem m_se_X3_makePick : Cond.selects RX3 yX3_makePick yX3_makePick ∈ gT := gT_t (i := 457) (by decide +kernel) (by decide +kernel)
theorem m_co_X3_makePick : Cond.code yX3_makePick cX3_makePick 2 none ∈ gT := gT_t (i := 458) (by decide +kernel) (by decide +kernel)
theorem m_ml_X3_93 : Cond.methodLink RX3 93 yX3_moveRaces ∈ gT := gT_t (i := 459) (by decide +kernel) (by decide +kernel)
theorem m_in_X3_moveRaces : Cond.instanceMethod yX3_moveRaces ∈ gT := gT_t (i := 460) (by decide +kernel) (by decide +kernel)
theorem m_se_X3_moveRaces : Cond.selects RX3 yX3_moveRaces yX3_moveRaces ∈ gT := gT_t (i := 461) (by decide +kernel) (by decide +kernel)
theorem m_co_X3_moveRaces : Cond.code yX3_moveRaces cX3_moveRaces 3 none ∈ gT := gT_t (i := 462) (by decide +kernel) (by decide +kernel)
theorem m_ml_X3_97 : Cond.methodLink RX3 97 yX3_frames ∈ gT := gT_t (i := 463) (by decide +kernel) (by decide +kernel)
theorem m_ml_X3_100 : Cond.methodLink RX3 100 yX6_wearOut ∈ gT := gT_t (i := 464) (by decide +kernel) (by decide +kernel)
theorem m_in_X6_wearOut : Cond.instanceMethod yX6_wearOut ∈ gT := gT_t (i := 465) (by decide +kernel) (by decide +kernel)
theorem m_se_X6_wearOut : Cond.selects RX6 yX6_wearOut yX6_wearOut ∈ gT := gT_t (i := 466) (by decide +kernel) (by decide +kernel)
theorem m_co_X6_wearOut : Cond.code yX6_wearOut cX6_wearOut 3 none ∈ gT := gT_t (i := 467) (by decide +kernel) (by decide +kernel)
theorem m_ml_X3_104 : Cond.methodLink RX3 104 yX3_fly ∈ gT := gT_t (i := 468) (by decide +kernel) (by decide +kernel)
theorem m_in_X3_fly : Cond.instanceMethod yX3_fly ∈ gT := gT_t (i := 469) (by decide +kernel) (by decide +kernel)
theorem m_se_X3_fly : Cond.selects RX3 yX3_fly yX3_fly ∈ gT := gT_t (i := 470) (by decide +kernel) (by decide +kernel)
theorem m_co_X3_fly : Cond.code yX3_fly cX3_fly 4 none ∈ gT := gT_t (i := 471) (by decide +kernel) (by decide +kernel)
theorem m_ml_X3_110 : Cond.methodLink RX3 110 yX5_isOnLeft ∈ gT := gT_t (i := 472) (by decide +kernel) (by decide +kernel)
theorem m_in_X5_isOnLeft : Cond.instanceMethod yX5_isOnLeft ∈ gT := gT_t (i := 473) (by decide +kernel) (by decide +kernel)
theorem m_se_X5_isOnLeft : Cond.selects RX5 yX5_isOnLeft yX5_isOnLeft ∈ gT := gT_t (i := 474) (by decide +kernel) (by decide +kernel)
theorem m_co_X5_isOnLeft : Cond.code yX5_isOnLeft cX5_isOnLeft 2 (some .boolean) ∈ gT := gT_t (i := 475) (by decide +kernel) (by decide +kernel)
theorem m_ml_X3_113 : Cond.methodLink RX3 113 yX5_place ∈ gT := gT_t (i := 476) (by decide +kernel) (by decide +kernel)
theorem m_ml_X3_116 : Cond.methodLink RX3 116 yX5_addYarn ∈ gT := gT_t (i := 477) (by decide +kernel) (by decide +kernel)
theorem m_in_X5_addYarn : Cond.instanceMethod yX5_addYarn ∈ gT := gT_t (i := 478) (by decide +kernel) (by decide +kernel)
theorem m_se_X5_addYarn : Cond.selects RX5 yX5_addYarn yX5_addYarn ∈ gT := gT_t (i := 479) (by decide +kernel) (by decide +kernel)
theorem m_co_X5_addYarn : Cond.code yX5_addYarn cX5_addYarn 3 none ∈ gT := gT_t (i := 480) (by decide +kernel) (by decide +kernel)
theorem m_ml_X3_107 : Cond.methodLink RX3 107 yX1_goOn ∈ gT := gT_t (i := 481) (by decide +kernel) (by decide +kernel)
theorem m_in_X1_goOn : Cond.instanceMethod yX1_goOn ∈ gT := gT_t (i := 482) (by decide +kernel) (by decide +kernel)
theorem m_se_X1_goOn : Cond.selects RX1 yX1_goOn yX1_goOn ∈ gT := gT_t (i := 483) (by decide +kernel) (by decide +kernel)
theorem m_co_X1_goOn : Cond.code yX1_goOn cX1_goOn 1 none ∈ gT := gT_t (i := 484) (by decide +kernel) (by decide +kernel)
theorem m_ml_X4_54 : Cond.methodLink RX4 54 yJ9_min_7cf53 ∈ gT := gT_t (i := 485) (by decide +kernel) (by decide +kernel)
theorem m_st_J9_min_7cf53 : Cond.static yJ9_min_7cf53 ∈ gT := gT_t (i := 486) (by decide +kernel) (by decide +kernel)
theorem m_co_J9_min_7cf53 : Cond.code yJ9_min_7cf53 cJ9_min_7cf53 2 (some .int) ∈ gT := gT_t (i := 487) (by decide +kernel) (by decide +kernel)
theorem m_ml_L_60 : Cond.methodLink RL 60 yX7_takeBack ∈ gT := gT_t (i := 488) (by decide +kernel) (by decide +kernel)
theorem m_in_X7_takeBack : Cond.instanceMethod yX7_takeBack ∈ gT := gT_t (i := 489) (by decide +kernel) (by decide +kernel)
theorem m_se_X7_takeBack : Cond.selects RX7 yX7_takeBack yX7_takeBack ∈ gT := gT_t (i := 490) (by decide +kernel) (by decide +kernel)
theorem m_co_X7_takeBack : Cond.code yX7_takeBack cX7_takeBack 1 (some .int) ∈ gT := gT_t (i := 491) (by decide +kernel) (by decide +kernel)
theorem m_ml_X7_157 : Cond.methodLink RX7 157 yX4_takePickBack ∈ gT := gT_t (i := 492) (by decide +kernel) (by decide +kernel)
theorem m_in_X4_takePickBack : Cond.instanceMethod yX4_takePickBack ∈ gT := gT_t (i := 493) (by decide +kernel) (by decide +kernel)
theorem m_se_X4_takePickBack : Cond.selects RX4 yX4_takePickBack yX4_takePickBack ∈ gT := gT_t (i := 494) (by decide +kernel) (by decide +kernel)
theorem m_co_X4_takePickBack : Cond.code yX4_takePickBack cX4_takePickBack 1 none ∈ gT := gT_t (i := 495) (by decide +kernel) (by decide +kernel)
theorem m_ml_X4_60 : Cond.methodLink RX4 60 yX2_takeRowBack ∈ gT := gT_t (i := 496) (by decide +kernel) (by decide +kernel)
theorem m_in_X2_takeRowBack : Cond.instanceMethod yX2_takeRowBack ∈ gT := gT_t (i := 497) (by decide +kernel) (by decide +kernel)
theorem m_se_X2_takeRowBack : Cond.selects RX2 yX2_takeRowBack yX2_takeRowBack ∈ gT := gT_t (i := 498) (by decide +kernel) (by decide +kernel)
theorem m_co_X2_takeRowBack : Cond.code yX2_takeRowBack cX2_takeRowBack 3 none ∈ gT := gT_t (i := 499) (by decide +kernel) (by decide +kernel)
theorem m_ml_X2_102 : Cond.methodLink RX2 102 yX3_fly ∈ gT := gT_t (i := 500) (by decide +kernel) (by decide +kernel)
theorem m_ml_X2_106 : Cond.methodLink RX2 106 yX3_moveRaces ∈ gT := gT_t (i := 501) (by decide +kernel) (by decide +kernel)
theorem m_ml_L_65 : Cond.methodLink RL 65 yX7_count ∈ gT := gT_t (i := 502) (by decide +kernel) (by decide +kernel)
theorem m_in_X7_count : Cond.instanceMethod yX7_count ∈ gT := gT_t (i := 503) (by decide +kernel) (by decide +kernel)
theorem m_se_X7_count : Cond.selects RX7 yX7_count yX7_count ∈ gT := gT_t (i := 504) (by decide +kernel) (by decide +kernel)
theorem m_co_X7_count : Cond.code yX7_count cX7_count 3 (some .int) ∈ gT := gT_t (i := 505) (by decide +kernel) (by decide +kernel)
theorem m_ml_L_69 : Cond.methodLink RL 69 yX7_shuttle ∈ gT := gT_t (i := 506) (by decide +kernel) (by decide +kernel)
theorem m_in_X7_shuttle : Cond.instanceMethod yX7_shuttle ∈ gT := gT_t (i := 507) (by decide +kernel) (by decide +kernel)
theorem m_se_X7_shuttle : Cond.selects RX7 yX7_shuttle yX7_shuttle ∈ gT := gT_t (i := 508) (by decide +kernel) (by decide +kernel)
theorem m_co_X7_shuttle : Cond.code yX7_shuttle cX7_shuttle 4 (some .int) ∈ gT := gT_t (i := 509) (by decide +kernel) (by decide +kernel)
theorem m_ml_L_73 : Cond.methodLink RL 73 yX7_inBox ∈ gT := gT_t (i := 510) (by decide +kernel) (by decide +kernel)
theorem m_in_X7_inBox : Cond.instanceMethod yX7_inBox ∈ gT := gT_t (i := 511) (by decide +kernel) (by decide +kernel)
theorem m_se_X7_inBox : Cond.selects RX7 yX7_inBox yX7_inBox ∈ gT := gT_t (i := 512) (by decide +kernel) (by decide +kernel)
theorem m_co_X7_inBox : Cond.code yX7_inBox cX7_inBox 3 (some .int) ∈ gT := gT_t (i := 513) (by decide +kernel) (by decide +kernel)
theorem m_ml_L_77 : Cond.methodLink RL 77 yX7_thread ∈ gT := gT_t (i := 514) (by decide +kernel) (by decide +kernel)
theorem m_in_X7_thread : Cond.instanceMethod yX7_thread ∈ gT := gT_t (i := 515) (by decide +kernel) (by decide +kernel)
theorem m_se_X7_thread : Cond.selects RX7 yX7_thread yX7_thread ∈ gT := gT_t (i := 516) (by decide +kernel) (by decide +kernel)
theorem m_co_X7_thread : Cond.code yX7_thread cX7_thread 4 (some .int) ∈ gT := gT_t (i := 517) (by decide +kernel) (by decide +kernel)
theorem m_ml_X7_184 : Cond.methodLink RX7 184 yX7_contains ∈ gT := gT_t (i := 518) (by decide +kernel) (by decide +kernel)
theorem m_ml_L_81 : Cond.methodLink RL 81 yX7_card ∈ gT := gT_t (i := 519) (by decide +kernel) (by decide +kernel)
theorem m_in_X7_card : Cond.instanceMethod yX7_card ∈ gT := gT_t (i := 520) (by decide +kernel) (by decide +kernel)
theorem m_se_X7_card : Cond.selects RX7 yX7_card yX7_card ∈ gT := gT_t (i := 521) (by decide +kernel) (by decide +kernel)
theorem m_co_X7_card : Cond.code yX7_card cX7_card 4 (some .int) ∈ gT := gT_t (i := 522) (by decide +kernel) (by decide +kernel)
theorem m_ml_X7_187 : Cond.methodLink RX7 187 yX1_framesOf ∈ gT := gT_t (i := 523) (by decide +kernel) (by decide +kernel)
theorem m_ml_X7_191 : Cond.methodLink RX7 191 yX1_boxOf ∈ gT := gT_t (i := 524) (by decide +kernel) (by decide +kernel)
theorem m_ml_X7_194 : Cond.methodLink RX7 194 yX6_inFrames ∈ gT := gT_t (i := 525) (by decide +kernel) (by decide +kernel)
theorem m_ml_L_85 : Cond.methodLink RL 85 yX7_cloth ∈ gT := gT_t (i := 526) (by decide +kernel) (by decide +kernel)
theorem m_in_X7_cloth : Cond.instanceMethod yX7_cloth ∈ gT := gT_t (i := 527) (by decide +kernel) (by decide +kernel)
theorem m_se_X7_cloth : Cond.selects RX7 yX7_cloth yX7_cloth ∈ gT := gT_t (i := 528) (by decide +kernel) (by decide +kernel)
theorem m_co_X7_cloth : Cond.code yX7_cloth cX7_cloth 3 (some .int) ∈ gT := gT_t (i := 529) (by decide +kernel) (by decide +kernel)
theorem m_ml_X7_197 : Cond.methodLink RX7 197 yX2_has ∈ gT := gT_t (i := 530) (by decide +kernel) (by decide +kernel)
theorem m_in_X2_has : Cond.instanceMethod yX2_has ∈ gT := gT_t (i := 531) (by decide +kernel) (by decide +kernel)
theorem m_se_X2_has : Cond.selects RX2 yX2_has yX2_has ∈ gT := gT_t (i := 532) (by decide +kernel) (by decide +kernel)
theorem m_co_X2_has : Cond.code yX2_has cX2_has 2 (some .boolean) ∈ gT := gT_t (i := 533) (by decide +kernel) (by decide +kernel)
theorem m_ml_X7_198 : Cond.methodLink RX7 198 yX2_isLifted ∈ gT := gT_t (i := 534) (by decide +kernel) (by decide +kernel)
theorem m_in_X2_isLifted : Cond.instanceMethod yX2_isLifted ∈ gT := gT_t (i := 535) (by decide +kernel) (by decide +kernel)
theorem m_se_X2_isLifted : Cond.selects RX2 yX2_isLifted yX2_isLifted ∈ gT := gT_t (i := 536) (by decide +kernel) (by decide +kernel)
theorem m_co_X2_isLifted : Cond.code yX2_isLifted cX2_isLifted 3 (some .boolean) ∈ gT := gT_t (i := 537) (by decide +kernel) (by decide +kernel)
theorem m_ml_X7_201 : Cond.methodLink RX7 201 yX2_colourOf ∈ gT := gT_t (i := 539) (by decide +kernel) (by decide +kernel)
theorem m_in_X2_colourOf : Cond.instanceMethod yX2_colourOf ∈ gT := gT_t (i := 540) (by decide +kernel) (by decide +kernel)
theorem m_se_X2_colourOf : Cond.selects RX2 yX2_colourOf yX2_colourOf ∈ gT := gT_t (i := 541) (by decide +kernel) (by decide +kernel)
theorem m_co_X2_colourOf : Cond.code yX2_colourOf cX2_colourOf 2 (some .int) ∈ gT := gT_t (i := 542) (by decide +kernel) (by decide +kernel)
theorem m_ml_L_89 : Cond.methodLink RL 89 yX7_longestFloat ∈ gT := gT_t (i := 543) (by decide +kernel) (by decide +kernel)
theorem m_in_X7_longestFloat : Cond.instanceMethod yX7_longestFloat ∈ gT := gT_t (i := 544) (by decide +kernel) (by decide +kernel)
theorem m_se_X7_longestFloat : Cond.selects RX7 yX7_longestFloat yX7_longestFloat ∈ gT := gT_t (i := 545) (by decide +kernel) (by decide +kernel)
theorem m_co_X7_longestFloat : Cond.code yX7_longestFloat cX7_longestFloat 2 (some .int) ∈ gT := gT_t (i := 546) (by decide +kernel) (by decide +kernel)
theorem m_ml_X7_204 : Cond.methodLink RX7 204 yX2_longestFloatOf ∈ gT := gT_t (i := 547) (by decide +kernel) (by decide +kernel)
theorem m_in_X2_longestFloatOf : Cond.instanceMethod yX2_longestFloatOf ∈ gT := gT_t (i := 548) (by decide +kernel) (by decide +kernel)
theorem m_se_X2_longestFloatOf : Cond.selects RX2 yX2_longestFloatOf yX2_longestFloatOf ∈ gT := gT_t (i := 549) (by decide +kernel) (by decide +kernel)
theorem m_co_X2_longestFloatOf : Cond.code yX2_longestFloatOf cX2_longestFloatOf 6 (some .int) ∈ gT := gT_t (i := 550) (by decide +kernel) (by decide +kernel)
theorem m_ml_X2_54 : Cond.methodLink RX2 54 yX2_isLifted ∈ gT := gT_t (i := 551) (by decide +kernel) (by decide +kernel)
theorem m_ml_X2_57 : Cond.methodLink RX2 57 yJ9_max_7cf53 ∈ gT := gT_t (i := 552) (by decide +kernel) (by decide +kernel)
theorem m_st_J9_max_7cf53 : Cond.static yJ9_max_7cf53 ∈ gT := gT_t (i := 553) (by decide +kernel) (by decide +kernel)
theorem m_co_J9_max_7cf53 : Cond.code yJ9_max_7cf53 cJ9_max_7cf53 2 (some .int) ∈ gT := gT_t (i := 554) (by decide +kernel) (by decide +kernel)
theorem m_ml_L_93 : Cond.methodLink RL 93 yX7_whyNot ∈ gT := gT_t (i := 555) (by decide +kernel) (by decide +kernel)
theorem m_in_X7_whyNot : Cond.instanceMethod yX7_whyNot ∈ gT := gT_t (i := 556) (by decide +kernel) (by decide +kernel)
theorem m_se_X7_whyNot : Cond.selects RX7 yX7_whyNot yX7_whyNot ∈ gT := gT_t (i := 557) (by decide +kernel) (by decide +kernel)
theorem m_co_X7_whyNot : Cond.code yX7_whyNot cX7_whyNot 1 (some .int) ∈ gT := gT_t (i := 558) (by decide +kernel) (by decide +kernel)
theorem m_ml_L_97 : Cond.methodLink RL 97 yX7_picksLeft ∈ gT := gT_t (i := 559) (by decide +kernel) (by decide +kernel)
theorem m_in_X7_picksLeft : Cond.instanceMethod yX7_picksLeft ∈ gT := gT_t (i := 560) (by decide +kernel) (by decide +kernel)
theorem m_se_X7_picksLeft : Cond.selects RX7 yX7_picksLeft yX7_picksLeft ∈ gT := gT_t (i := 561) (by decide +kernel) (by decide +kernel)
theorem m_co_X7_picksLeft : Cond.code yX7_picksLeft cX7_picksLeft 2 (some .int) ∈ gT := gT_t (i := 562) (by decide +kernel) (by decide +kernel)
theorem m_ml_X7_207 : Cond.methodLink RX7 207 yX3_copyFrom ∈ gT := gT_t (i := 563) (by decide +kernel) (by decide +kernel)
theorem m_ml_X7_211 : Cond.methodLink RX7 211 yX3_makePick ∈ gT := gT_t (i := 564) (by decide +kernel) (by decide +kernel)
theorem m_ml_L_101 : Cond.methodLink RL 101 yX7_firstEmpty ∈ gT := gT_t (i := 565) (by decide +kernel) (by decide +kernel)
theorem m_in_X7_firstEmpty : Cond.instanceMethod yX7_firstEmpty ∈ gT := gT_t (i := 566) (by decide +kernel) (by decide +kernel)
theorem m_se_X7_firstEmpty : Cond.selects RX7 yX7_firstEmpty yX7_firstEmpty ∈ gT := gT_t (i := 567) (by decide +kernel) (by decide +kernel)
theorem m_co_X7_firstEmpty : Cond.code yX7_firstEmpty cX7_firstEmpty 3 (some .int) ∈ gT := gT_t (i := 568) (by decide +kernel) (by decide +kernel)
theorem m_ml_X7_212 : Cond.methodLink RX7 212 yX3_reasonOfCardOrShuttle ∈ gT := gT_t (i := 569) (by decide +kernel) (by decide +kernel)
theorem m_ml_X7_215 : Cond.methodLink RX7 215 yX3_flyingShuttle ∈ gT := gT_t (i := 570) (by decide +kernel) (by decide +kernel)
theorem m_ml_L_105 : Cond.methodLink RL 105 yX7_repeats ∈ gT := gT_t (i := 571) (by decide +kernel) (by decide +kernel)
theorem m_in_X7_repeats : Cond.instanceMethod yX7_repeats ∈ gT := gT_t (i := 572) (by decide +kernel) (by decide +kernel)
theorem m_se_X7_repeats : Cond.selects RX7 yX7_repeats yX7_repeats ∈ gT := gT_t (i := 573) (by decide +kernel) (by decide +kernel)
theorem m_co_X7_repeats : Cond.code yX7_repeats cX7_repeats 3 (some .int) ∈ gT := gT_t (i := 574) (by decide +kernel) (by decide +kernel)
theorem m_ml_X7_218 : Cond.methodLink RX7 218 yX5_standAs ∈ gT := gT_t (i := 575) (by decide +kernel) (by decide +kernel)
theorem m_in_X5_standAs : Cond.instanceMethod yX5_standAs ∈ gT := gT_t (i := 576) (by decide +kernel) (by decide +kernel)
theorem m_se_X5_standAs : Cond.selects RX5 yX5_standAs yX5_standAs ∈ gT := gT_t (i := 577) (by decide +kernel) (by decide +kernel)
theorem m_co_X5_standAs : Cond.code yX5_standAs cX5_standAs 3 (some .boolean) ∈ gT := gT_t (i := 578) (by decide +kernel) (by decide +kernel)
theorem m_ml_L_109 : Cond.methodLink RL 109 yX7_type ∈ gT := gT_t (i := 579) (by decide +kernel) (by decide +kernel)
theorem m_in_X7_type : Cond.instanceMethod yX7_type ∈ gT := gT_t (i := 580) (by decide +kernel) (by decide +kernel)
theorem m_se_X7_type : Cond.selects RX7 yX7_type yX7_type ∈ gT := gT_t (i := 581) (by decide +kernel) (by decide +kernel)
theorem m_co_X7_type : Cond.code yX7_type cX7_type 2 (some .int) ∈ gT := gT_t (i := 582) (by decide +kernel) (by decide +kernel)
theorem m_ml_L_113 : Cond.methodLink RL 113 yX7_clearText ∈ gT := gT_t (i := 583) (by decide +kernel) (by decide +kernel)
theorem m_in_X7_clearText : Cond.instanceMethod yX7_clearText ∈ gT := gT_t (i := 584) (by decide +kernel) (by decide +kernel)
theorem m_se_X7_clearText : Cond.selects RX7 yX7_clearText yX7_clearText ∈ gT := gT_t (i := 585) (by decide +kernel) (by decide +kernel)
theorem m_co_X7_clearText : Cond.code yX7_clearText cX7_clearText 2 (some .int) ∈ gT := gT_t (i := 586) (by decide +kernel) (by decide +kernel)
theorem m_ml_L_117 : Cond.methodLink RL 117 yX7_syntaxError ∈ gT := gT_t (i := 587) (by decide +kernel) (by decide +kernel)
theorem m_in_X7_syntaxError : Cond.instanceMethod yX7_syntaxError ∈ gT := gT_t (i := 588) (by decide +kernel) (by decide +kernel)
theorem m_se_X7_syntaxError : Cond.selects RX7 yX7_syntaxError yX7_syntaxError ∈ gT := gT_t (i := 589) (by decide +kernel) (by decide +kernel)
theorem m_co_X7_syntaxError : Cond.code yX7_syntaxError cX7_syntaxError 2 (some .int) ∈ gT := gT_t (i := 590) (by decide +kernel) (by decide +kernel)
theorem m_ml_X7_222 : Cond.methodLink RX7 222 yX0_start ∈ gT := gT_t (i := 591) (by decide +kernel) (by decide +kernel)
theorem m_in_X0_start : Cond.instanceMethod yX0_start ∈ gT := gT_t (i := 592) (by decide +kernel) (by decide +kernel)
theorem m_se_X0_start : Cond.selects RX0 yX0_start yX0_start ∈ gT := gT_t (i := 593) (by decide +kernel) (by decide +kernel)
theorem m_co_X0_start : Cond.code yX0_start cX0_start 1 none ∈ gT := gT_t (i := 594) (by decide +kernel) (by decide +kernel)
theorem m_ml_X7_225 : Cond.methodLink RX7 225 yX0_accepts ∈ gT := gT_t (i := 595) (by decide +kernel) (by decide +kernel)
theorem m_in_X0_accepts : Cond.instanceMethod yX0_accepts ∈ gT := gT_t (i := 596) (by decide +kernel) (by decide +kernel)
theorem m_se_X0_accepts : Cond.selects RX0 yX0_accepts yX0_accepts ∈ gT := gT_t (i := 597) (by decide +kernel) (by decide +kernel)
theorem m_co_X0_accepts : Cond.code yX0_accepts cX0_accepts 2 (some .boolean) ∈ gT := gT_t (i := 598) (by decide +kernel) (by decide +kernel)
theorem m_ml_X0_27 : Cond.methodLink RX0 27 yX0_goTo ∈ gT := gT_t (i := 599) (by decide +kernel) (by decide +kernel)
theorem m_in_X0_goTo : Cond.instanceMethod yX0_goTo ∈ gT := gT_t (i := 601) (by decide +kernel) (by decide +kernel)
theorem m_co_X0_goTo : Cond.code yX0_goTo cX0_goTo 2 (some .boolean) ∈ gT := gT_t (i := 602) (by decide +kernel) (by decide +kernel)
theorem m_ml_X0_31 : Cond.methodLink RX0 31 yX0_acceptsFrame ∈ gT := gT_t (i := 603) (by decide +kernel) (by decide +kernel)
theorem m_in_X0_acceptsFrame : Cond.instanceMethod yX0_acceptsFrame ∈ gT := gT_t (i := 605) (by decide +kernel) (by decide +kernel)
theorem m_co_X0_acceptsFrame : Cond.code yX0_acceptsFrame cX0_acceptsFrame 2 (some .boolean) ∈ gT := gT_t (i := 606) (by decide +kernel) (by decide +kernel)
theorem m_ml_X0_34 : Cond.methodLink RX0 34 yX0_acceptsLeft ∈ gT := gT_t (i := 608) (by decide +kernel) (by decide +kernel)
theorem m_in_X0_acceptsLeft : Cond.instanceMethod yX0_acceptsLeft ∈ gT := gT_t (i := 610) (by decide +kernel) (by decide +kernel)
theorem m_co_X0_acceptsLeft : Cond.code yX0_acceptsLeft cX0_acceptsLeft 2 (some .boolean) ∈ gT := gT_t (i := 611) (by decide +kernel) (by decide +kernel)
theorem m_ml_X0_37 : Cond.methodLink RX0 37 yX0_acceptsRight ∈ gT := gT_t (i := 613) (by decide +kernel) (by decide +kernel)
theorem m_in_X0_acceptsRight : Cond.instanceMethod yX0_acceptsRight ∈ gT := gT_t (i := 615) (by decide +kernel) (by decide +kernel)
theorem m_co_X0_acceptsRight : Cond.code yX0_acceptsRight cX0_acceptsRight 2 (some .boolean) ∈ gT := gT_t (i := 616) (by decide +kernel) (by decide +kernel)
theorem m_ml_X0_40 : Cond.methodLink RX0 40 yX0_startNext ∈ gT := gT_t (i := 617) (by decide +kernel) (by decide +kernel)
theorem m_in_X0_startNext : Cond.instanceMethod yX0_startNext ∈ gT := gT_t (i := 619) (by decide +kernel) (by decide +kernel)
theorem m_co_X0_startNext : Cond.code yX0_startNext cX0_startNext 1 (some .boolean) ∈ gT := gT_t (i := 620) (by decide +kernel) (by decide +kernel)
theorem m_ml_X0_52 : Cond.methodLink RX0 52 yX0_start ∈ gT := gT_t (i := 621) (by decide +kernel) (by decide +kernel)
theorem m_ml_X7_229 : Cond.methodLink RX7 229 yX0_isBehindCard ∈ gT := gT_t (i := 622) (by decide +kernel) (by decide +kernel)
theorem m_in_X0_isBehindCard : Cond.instanceMethod yX0_isBehindCard ∈ gT := gT_t (i := 623) (by decide +kernel) (by decide +kernel)
theorem m_se_X0_isBehindCard : Cond.selects RX0 yX0_isBehindCard yX0_isBehindCard ∈ gT := gT_t (i := 624) (by decide +kernel) (by decide +kernel)
theorem m_co_X0_isBehindCard : Cond.code yX0_isBehindCard cX0_isBehindCard 1 (some .boolean) ∈ gT := gT_t (i := 625) (by decide +kernel) (by decide +kernel)
theorem m_ml_L_121 : Cond.methodLink RL 121 yX7_readCards ∈ gT := gT_t (i := 626) (by decide +kernel) (by decide +kernel)
theorem m_in_X7_readCards : Cond.instanceMethod yX7_readCards ∈ gT := gT_t (i := 627) (by decide +kernel) (by decide +kernel)
theorem m_se_X7_readCards : Cond.selects RX7 yX7_readCards yX7_readCards ∈ gT := gT_t (i := 628) (by decide +kernel) (by decide +kernel)
theorem m_co_X7_readCards : Cond.code yX7_readCards cX7_readCards 3 (some .int) ∈ gT := gT_t (i := 629) (by decide +kernel) (by decide +kernel)
theorem m_ml_X7_233 : Cond.methodLink RX7 233 yX7_syntaxError ∈ gT := gT_t (i := 630) (by decide +kernel) (by decide +kernel)
theorem m_ml_X7_236 : Cond.methodLink RX7 236 yX7_cardsInText ∈ gT := gT_t (i := 631) (by decide +kernel) (by decide +kernel)
theorem m_in_X7_cardsInText : Cond.instanceMethod yX7_cardsInText ∈ gT := gT_t (i := 633) (by decide +kernel) (by decide +kernel)
theorem m_co_X7_cardsInText : Cond.code yX7_cardsInText cX7_cardsInText 3 (some .int) ∈ gT := gT_t (i := 634) (by decide +kernel) (by decide +kernel)
theorem m_ml_L_125 : Cond.methodLink RL 125 yX7_undo ∈ gT := gT_t (i := 635) (by decide +kernel) (by decide +kernel)
theorem m_in_X7_undo : Cond.instanceMethod yX7_undo ∈ gT := gT_t (i := 636) (by decide +kernel) (by decide +kernel)
theorem m_se_X7_undo : Cond.selects RX7 yX7_undo yX7_undo ∈ gT := gT_t (i := 637) (by decide +kernel) (by decide +kernel)
theorem m_co_X7_undo : Cond.code yX7_undo cX7_undo 1 (some .int) ∈ gT := gT_t (i := 638) (by decide +kernel) (by decide +kernel)
theorem m_ml_L_129 : Cond.methodLink RL 129 yX7_digest ∈ gT := gT_t (i := 639) (by decide +kernel) (by decide +kernel)
theorem m_in_X7_digest : Cond.instanceMethod yX7_digest ∈ gT := gT_t (i := 640) (by decide +kernel) (by decide +kernel)
theorem m_se_X7_digest : Cond.selects RX7 yX7_digest yX7_digest ∈ gT := gT_t (i := 641) (by decide +kernel) (by decide +kernel)
theorem m_co_X7_digest : Cond.code yX7_digest cX7_digest 4 (some .long) ∈ gT := gT_t (i := 642) (by decide +kernel) (by decide +kernel)
theorem m_kl_X7_256 : Cond.constantLong RX7 256 334 ∈ gT := gT_t (i := 643) (by decide +kernel) (by decide +kernel)
theorem m_kl_X7_258 : Cond.constantLong RX7 258 31 ∈ gT := gT_t (i := 644) (by decide +kernel) (by decide +kernel)
theorem m_ml_X7_260 : Cond.methodLink RX7 260 yX7_count ∈ gT := gT_t (i := 645) (by decide +kernel) (by decide +kernel)
theorem m_ml_X7_263 : Cond.methodLink RX7 263 yX7_hashShuttles ∈ gT := gT_t (i := 646) (by decide +kernel) (by decide +kernel)
theorem m_in_X7_hashShuttles : Cond.instanceMethod yX7_hashShuttles ∈ gT := gT_t (i := 648) (by decide +kernel) (by decide +kernel)
theorem m_co_X7_hashShuttles : Cond.code yX7_hashShuttles cX7_hashShuttles 7 (some .long) ∈ gT := gT_t (i := 649) (by decide +kernel) (by decide +kernel)
theorem m_ml_X7_288 : Cond.methodLink RX7 288 yX7_shuttle ∈ gT := gT_t (i := 650) (by decide +kernel) (by decide +kernel)
theorem m_ml_X7_267 : Cond.methodLink RX7 267 yX7_hashThreads ∈ gT := gT_t (i := 651) (by decide +kernel) (by decide +kernel)
theorem m_in_X7_hashThreads : Cond.instanceMethod yX7_hashThreads ∈ gT := gT_t (i := 653) (by decide +kernel) (by decide +kernel)
theorem m_co_X7_hashThreads : Cond.code yX7_hashThreads cX7_hashThreads 7 (some .long) ∈ gT := gT_t (i := 654) (by decide +kernel) (by decide +kernel)
theorem m_ml_X7_291 : Cond.methodLink RX7 291 yX7_thread ∈ gT := gT_t (i := 655) (by decide +kernel) (by decide +kernel)
theorem m_ml_X7_294 : Cond.methodLink RX7 294 yX7_longestFloat ∈ gT := gT_t (i := 656) (by decide +kernel) (by decide +kernel)
theorem m_ml_X7_270 : Cond.methodLink RX7 270 yX7_hashCards ∈ gT := gT_t (i := 657) (by decide +kernel) (by decide +kernel)
theorem m_in_X7_hashCards : Cond.instanceMethod yX7_hashCards ∈ gT := gT_t (i := 659) (by decide +kernel) (by decide +kernel)
theorem m_co_X7_hashCards : Cond.code yX7_hashCards cX7_hashCards 7 (some .long) ∈ gT := gT_t (i := 660) (by decide +kernel) (by decide +kernel)
theorem m_ml_X7_297 : Cond.methodLink RX7 297 yX7_card ∈ gT := gT_t (i := 661) (by decide +kernel) (by decide +kernel)
theorem m_ml_X7_273 : Cond.methodLink RX7 273 yX7_hashCloth ∈ gT := gT_t (i := 662) (by decide +kernel) (by decide +kernel)
theorem m_in_X7_hashCloth : Cond.instanceMethod yX7_hashCloth ∈ gT := gT_t (i := 664) (by decide +kernel) (by decide +kernel)
theorem m_co_X7_hashCloth : Cond.code yX7_hashCloth cX7_hashCloth 7 (some .long) ∈ gT := gT_t (i := 665) (by decide +kernel) (by decide +kernel)
theorem m_ml_X7_300 : Cond.methodLink RX7 300 yX7_cloth ∈ gT := gT_t (i := 666) (by decide +kernel) (by decide +kernel)
theorem m_ml_X7_276 : Cond.methodLink RX7 276 yX7_whyNot ∈ gT := gT_t (i := 667) (by decide +kernel) (by decide +kernel)
theorem m_ml_X7_279 : Cond.methodLink RX7 279 yX7_picksLeft ∈ gT := gT_t (i := 668) (by decide +kernel) (by decide +kernel)
theorem m_ml_X7_282 : Cond.methodLink RX7 282 yX7_firstEmpty ∈ gT := gT_t (i := 669) (by decide +kernel) (by decide +kernel)
theorem m_ml_X7_285 : Cond.methodLink RX7 285 yX7_repeats ∈ gT := gT_t (i := 670) (by decide +kernel) (by decide +kernel)
theorem m_cl_L_10 : Cond.classLink RL 10 RX8 ∈ gT := gT_t (i := 671) (by decide +kernel) (by decide +kernel)
theorem m_is_X8 : Cond.instantiable RX8 12 ∈ gT := gT_t (i := 672) (by decide +kernel) (by decide +kernel)
theorem m_ml_L_12 : Cond.methodLink RL 12 yX8_init ∈ gT := gT_t (i := 673) (by decide +kernel) (by decide +kernel)
theorem m_in_X8_init : Cond.instanceMethod yX8_init ∈ gT := gT_t (i := 674) (by decide +kernel) (by decide +kernel)
theorem m_co_X8_init : Cond.code yX8_init cX8_init 2 none ∈ gT := gT_t (i := 675) (by decide +kernel) (by decide +kernel)
theorem m_ml_X8_1 : Cond.methodLink RX8 1 objectInit ∈ gT := gT_t (i := 676) (by decide +kernel) (by decide +kernel)
theorem m_ml_X8_22 : Cond.methodLink RX8 22 yX8_setShuttle ∈ gT := gT_t (i := 677) (by decide +kernel) (by decide +kernel)
theorem m_in_X8_setShuttle : Cond.instanceMethod yX8_setShuttle ∈ gT := gT_t (i := 679) (by decide +kernel) (by decide +kernel)
theorem m_co_X8_setShuttle : Cond.code yX8_setShuttle cX8_setShuttle 4 none ∈ gT := gT_t (i := 680) (by decide +kernel) (by decide +kernel)
theorem m_ml_X8_26 : Cond.methodLink RX8 26 yX8_setThread ∈ gT := gT_t (i := 681) (by decide +kernel) (by decide +kernel)
theorem m_in_X8_setThread : Cond.instanceMethod yX8_setThread ∈ gT := gT_t (i := 683) (by decide +kernel) (by decide +kernel)
theorem m_co_X8_setThread : Cond.code yX8_setThread cX8_setThread 4 none ∈ gT := gT_t (i := 684) (by decide +kernel) (by decide +kernel)
theorem m_fl_X8_7 : Cond.fieldLink RX8 7 RX8 (TX8 0).2.1 (TX8 0).2.2.1 ∈ gT := gT_t (i := 685) (by decide +kernel) (by decide +kernel)
theorem m_fl_X8_13 : Cond.fieldLink RX8 13 RX8 (TX8 1).2.1 (TX8 1).2.2.1 ∈ gT := gT_t (i := 686) (by decide +kernel) (by decide +kernel)
theorem m_fl_X8_16 : Cond.fieldLink RX8 16 RX8 (TX8 2).2.1 (TX8 2).2.2.1 ∈ gT := gT_t (i := 687) (by decide +kernel) (by decide +kernel)
theorem m_fl_X8_29 : Cond.fieldLink RX8 29 RX8 (TX8 3).2.1 (TX8 3).2.2.1 ∈ gT := gT_t (i := 688) (by decide +kernel) (by decide +kernel)
theorem m_fl_X8_19 : Cond.fieldLink RX8 19 RX8 (TX8 4).2.1 (TX8 4).2.2.1 ∈ gT := gT_t (i := 689) (by decide +kernel) (by decide +kernel)
theorem m_fl_X8_141 : Cond.fieldLink RX8 141 RX8 (TX8 5).2.1 (TX8 5).2.2.1 ∈ gT := gT_t (i := 690) (by decide +kernel) (by decide +kernel)
theorem m_fl_X8_54 : Cond.fieldLink RX8 54 RX8 (TX8 6).2.1 (TX8 6).2.2.1 ∈ gT := gT_t (i := 691) (by decide +kernel) (by decide +kernel)
theorem m_fl_X8_57 : Cond.fieldLink RX8 57 RX8 (TX8 7).2.1 (TX8 7).2.2.1 ∈ gT := gT_t (i := 692) (by decide +kernel) (by decide +kernel)
theorem m_fl_X8_144 : Cond.fieldLink RX8 144 RX8 (TX8 8).2.1 (TX8 8).2.2.1 ∈ gT := gT_t (i := 693) (by decide +kernel) (by decide +kernel)
theorem m_fl_X8_150 : Cond.fieldLink RX8 150 RX8 (TX8 9).2.1 (TX8 9).2.2.1 ∈ gT := gT_t (i := 694) (by decide +kernel) (by decide +kernel)
theorem m_fl_X8_156 : Cond.fieldLink RX8 156 RX8 (TX8 10).2.1 (TX8 10).2.2.1 ∈ gT := gT_t (i := 695) (by decide +kernel) (by decide +kernel)
theorem m_fl_X8_159 : Cond.fieldLink RX8 159 RX8 (TX8 11).2.1 (TX8 11).2.2.1 ∈ gT := gT_t (i := 696) (by decide +kernel) (by decide +kernel)
theorem m_ml_L_59 : Cond.methodLink RL 59 yX8_weave ∈ gT := gT_t (i := 722) (by decide +kernel) (by decide +kernel)
theorem m_in_X8_weave : Cond.instanceMethod yX8_weave ∈ gT := gT_t (i := 723) (by decide +kernel) (by decide +kernel)
theorem m_se_X8_weave : Cond.selects RX8 yX8_weave yX8_weave ∈ gT := gT_t (i := 724) (by decide +kernel) (by decide +kernel)
theorem m_co_X8_weave : Cond.code yX8_weave cX8_weave 3 (some .int) ∈ gT := gT_t (i := 725) (by decide +kernel) (by decide +kernel)
theorem m_ml_X8_40 : Cond.methodLink RX8 40 yX8_within ∈ gT := gT_t (i := 726) (by decide +kernel) (by decide +kernel)
theorem m_st_X8_within : Cond.static yX8_within ∈ gT := gT_t (i := 727) (by decide +kernel) (by decide +kernel)
theorem m_co_X8_within : Cond.code yX8_within cX8_within 3 (some .boolean) ∈ gT := gT_t (i := 728) (by decide +kernel) (by decide +kernel)
theorem m_ml_X8_37 : Cond.methodLink RX8 37 yX8_record ∈ gT := gT_t (i := 729) (by decide +kernel) (by decide +kernel)
theorem m_in_X8_record : Cond.instanceMethod yX8_record ∈ gT := gT_t (i := 731) (by decide +kernel) (by decide +kernel)
theorem m_co_X8_record : Cond.code yX8_record cX8_record 2 none ∈ gT := gT_t (i := 732) (by decide +kernel) (by decide +kernel)
theorem m_ml_X8_33 : Cond.methodLink RX8 33 yX8_copies ∈ gT := gT_t (i := 733) (by decide +kernel) (by decide +kernel)
theorem m_st_X8_copies : Cond.static yX8_copies ∈ gT := gT_t (i := 734) (by decide +kernel) (by decide +kernel)
theorem m_co_X8_copies : Cond.code yX8_copies cX8_copies 5 none ∈ gT := gT_t (i := 735) (by decide +kernel) (by decide +kernel)
theorem m_ml_X8_79 : Cond.methodLink RX8 79 yX8_findReason ∈ gT := gT_t (i := 736) (by decide +kernel) (by decide +kernel)
theorem m_in_X8_findReason : Cond.instanceMethod yX8_findReason ∈ gT := gT_t (i := 738) (by decide +kernel) (by decide +kernel)
theorem m_co_X8_findReason : Cond.code yX8_findReason cX8_findReason 6 none ∈ gT := gT_t (i := 739) (by decide +kernel) (by decide +kernel)
theorem m_ml_X8_51 : Cond.methodLink RX8 51 yX8_cardPart ∈ gT := gT_t (i := 740) (by decide +kernel) (by decide +kernel)
theorem m_in_X8_cardPart : Cond.instanceMethod yX8_cardPart ∈ gT := gT_t (i := 742) (by decide +kernel) (by decide +kernel)
theorem m_co_X8_cardPart : Cond.code yX8_cardPart cX8_cardPart 3 (some .int) ∈ gT := gT_t (i := 743) (by decide +kernel) (by decide +kernel)
theorem m_ml_X8_60 : Cond.methodLink RX8 60 yX8_shuttleIn ∈ gT := gT_t (i := 744) (by decide +kernel) (by decide +kernel)
theorem m_in_X8_shuttleIn : Cond.instanceMethod yX8_shuttleIn ∈ gT := gT_t (i := 746) (by decide +kernel) (by decide +kernel)
theorem m_co_X8_shuttleIn : Cond.code yX8_shuttleIn cX8_shuttleIn 5 (some .int) ∈ gT := gT_t (i := 747) (by decide +kernel) (by decide +kernel)
theorem m_ml_X8_44 : Cond.methodLink RX8 44 yX8_shuttlePart ∈ gT := gT_t (i := 748) (by decide +kernel) (by decide +kernel)
theorem m_in_X8_shuttlePart : Cond.instanceMethod yX8_shuttlePart ∈ gT := gT_t (i := 750) (by decide +kernel) (by decide +kernel)
theorem m_co_X8_shuttlePart : Cond.code yX8_shuttlePart cX8_shuttlePart 3 (some .int) ∈ gT := gT_t (i := 751) (by decide +kernel) (by decide +kernel)
theorem m_ml_X8_63 : Cond.methodLink RX8 63 yX8_says ∈ gT := gT_t (i := 752) (by decide +kernel) (by decide +kernel)
theorem m_in_X8_says : Cond.instanceMethod yX8_says ∈ gT := gT_t (i := 754) (by decide +kernel) (by decide +kernel)
theorem m_co_X8_says : Cond.code yX8_says cX8_says 3 none ∈ gT := gT_t (i := 755) (by decide +kernel) (by decide +kernel)
theorem m_ml_X8_67 : Cond.methodLink RX8 67 yX8_firstBroken ∈ gT := gT_t (i := 756) (by decide +kernel) (by decide +kernel)
theorem m_in_X8_firstBroken : Cond.instanceMethod yX8_firstBroken ∈ gT := gT_t (i := 758) (by decide +kernel) (by decide +kernel)
theorem m_co_X8_firstBroken : Cond.code yX8_firstBroken cX8_firstBroken 3 (some .int) ∈ gT := gT_t (i := 759) (by decide +kernel) (by decide +kernel)
theorem m_ml_X8_48 : Cond.methodLink RX8 48 yX8_threadPart ∈ gT := gT_t (i := 760) (by decide +kernel) (by decide +kernel)
theorem m_in_X8_threadPart : Cond.instanceMethod yX8_threadPart ∈ gT := gT_t (i := 762) (by decide +kernel) (by decide +kernel)
theorem m_co_X8_threadPart : Cond.code yX8_threadPart cX8_threadPart 3 (some .int) ∈ gT := gT_t (i := 763) (by decide +kernel) (by decide +kernel)
theorem m_ml_X8_71 : Cond.methodLink RX8 71 yX8_isTooFar ∈ gT := gT_t (i := 764) (by decide +kernel) (by decide +kernel)
theorem m_in_X8_isTooFar : Cond.instanceMethod yX8_isTooFar ∈ gT := gT_t (i := 766) (by decide +kernel) (by decide +kernel)
theorem m_co_X8_isTooFar : Cond.code yX8_isTooFar cX8_isTooFar 3 (some .boolean) ∈ gT := gT_t (i := 767) (by decide +kernel) (by decide +kernel)
theorem m_ml_X8_83 : Cond.methodLink RX8 83 yX8_addsRow ∈ gT := gT_t (i := 768) (by decide +kernel) (by decide +kernel)
theorem m_in_X8_addsRow : Cond.instanceMethod yX8_addsRow ∈ gT := gT_t (i := 770) (by decide +kernel) (by decide +kernel)
theorem m_co_X8_addsRow : Cond.code yX8_addsRow cX8_addsRow 2 none ∈ gT := gT_t (i := 771) (by decide +kernel) (by decide +kernel)
theorem m_ml_X8_75 : Cond.methodLink RX8 75 yX8_threadsOf ∈ gT := gT_t (i := 772) (by decide +kernel) (by decide +kernel)
theorem m_in_X8_threadsOf : Cond.instanceMethod yX8_threadsOf ∈ gT := gT_t (i := 774) (by decide +kernel) (by decide +kernel)
theorem m_co_X8_threadsOf : Cond.code yX8_threadsOf cX8_threadsOf 4 (some .int) ∈ gT := gT_t (i := 775) (by decide +kernel) (by decide +kernel)
theorem m_ml_X8_86 : Cond.methodLink RX8 86 yX8_moves ∈ gT := gT_t (i := 776) (by decide +kernel) (by decide +kernel)
theorem m_in_X8_moves : Cond.instanceMethod yX8_moves ∈ gT := gT_t (i := 778) (by decide +kernel) (by decide +kernel)
theorem m_co_X8_moves : Cond.code yX8_moves cX8_moves 6 none ∈ gT := gT_t (i := 779) (by decide +kernel) (by decide +kernel)
theorem m_ml_L_64 : Cond.methodLink RL 64 yX8_takeBack ∈ gT := gT_t (i := 780) (by decide +kernel) (by decide +kernel)
theorem m_in_X8_takeBack : Cond.instanceMethod yX8_takeBack ∈ gT := gT_t (i := 781) (by decide +kernel) (by decide +kernel)
theorem m_se_X8_takeBack : Cond.selects RX8 yX8_takeBack yX8_takeBack ∈ gT := gT_t (i := 782) (by decide +kernel) (by decide +kernel)
theorem m_co_X8_takeBack : Cond.code yX8_takeBack cX8_takeBack 3 (some .int) ∈ gT := gT_t (i := 783) (by decide +kernel) (by decide +kernel)
theorem m_ml_X8_89 : Cond.methodLink RX8 89 yX8_rowPart ∈ gT := gT_t (i := 784) (by decide +kernel) (by decide +kernel)
theorem m_in_X8_rowPart : Cond.instanceMethod yX8_rowPart ∈ gT := gT_t (i := 786) (by decide +kernel) (by decide +kernel)
theorem m_co_X8_rowPart : Cond.code yX8_rowPart cX8_rowPart 3 (some .int) ∈ gT := gT_t (i := 787) (by decide +kernel) (by decide +kernel)
theorem m_ml_L_17 : Cond.methodLink RL 17 yX8_putIn ∈ gT := gT_t (i := 788) (by decide +kernel) (by decide +kernel)
theorem m_in_X8_putIn : Cond.instanceMethod yX8_putIn ∈ gT := gT_t (i := 789) (by decide +kernel) (by decide +kernel)
theorem m_se_X8_putIn : Cond.selects RX8 yX8_putIn yX8_putIn ∈ gT := gT_t (i := 790) (by decide +kernel) (by decide +kernel)
theorem m_co_X8_putIn : Cond.code yX8_putIn cX8_putIn 4 (some .int) ∈ gT := gT_t (i := 791) (by decide +kernel) (by decide +kernel)
theorem m_ml_X8_92 : Cond.methodLink RX8 92 yX8_isShuttle ∈ gT := gT_t (i := 792) (by decide +kernel) (by decide +kernel)
theorem m_st_X8_isShuttle : Cond.static yX8_isShuttle ∈ gT := gT_t (i := 793) (by decide +kernel) (by decide +kernel)
theorem m_co_X8_isShuttle : Cond.code yX8_isShuttle cX8_isShuttle 1 (some .boolean) ∈ gT := gT_t (i := 794) (by decide +kernel) (by decide +kernel)
theorem m_ml_X8_95 : Cond.methodLink RX8 95 yX8_isBox ∈ gT := gT_t (i := 795) (by decide +kernel) (by decide +kernel)
theorem m_st_X8_isBox : Cond.static yX8_isBox ∈ gT := gT_t (i := 796) (by decide +kernel) (by decide +kernel)
theorem m_co_X8_isBox : Cond.code yX8_isBox cX8_isBox 2 (some .boolean) ∈ gT := gT_t (i := 797) (by decide +kernel) (by decide +kernel)
theorem m_ml_X8_99 : Cond.methodLink RX8 99 yX8_recordOther ∈ gT := gT_t (i := 798) (by decide +kernel) (by decide +kernel)
theorem m_in_X8_recordOther : Cond.instanceMethod yX8_recordOther ∈ gT := gT_t (i := 800) (by decide +kernel) (by decide +kernel)
theorem m_co_X8_recordOther : Cond.code yX8_recordOther cX8_recordOther 1 none ∈ gT := gT_t (i := 801) (by decide +kernel) (by decide +kernel)
theorem m_ml_X8_102 : Cond.methodLink RX8 102 yX8_inBoxes ∈ gT := gT_t (i := 802) (by decide +kernel) (by decide +kernel)
theorem m_in_X8_inBoxes : Cond.instanceMethod yX8_inBoxes ∈ gT := gT_t (i := 804) (by decide +kernel) (by decide +kernel)
theorem m_co_X8_inBoxes : Cond.code yX8_inBoxes cX8_inBoxes 3 (some .int) ∈ gT := gT_t (i := 805) (by decide +kernel) (by decide +kernel)
theorem m_ml_L_22 : Cond.methodLink RL 22 yX8_takeOut ∈ gT := gT_t (i := 806) (by decide +kernel) (by decide +kernel)
theorem m_in_X8_takeOut : Cond.instanceMethod yX8_takeOut ∈ gT := gT_t (i := 807) (by decide +kernel) (by decide +kernel)
theorem m_se_X8_takeOut : Cond.selects RX8 yX8_takeOut yX8_takeOut ∈ gT := gT_t (i := 808) (by decide +kernel) (by decide +kernel)
theorem m_co_X8_takeOut : Cond.code yX8_takeOut cX8_takeOut 3 (some .int) ∈ gT := gT_t (i := 809) (by decide +kernel) (by decide +kernel)
theorem m_ml_L_26 : Cond.methodLink RL 26 yX8_wind ∈ gT := gT_t (i := 810) (by decide +kernel) (by decide +kernel)
theorem m_in_X8_wind : Cond.instanceMethod yX8_wind ∈ gT := gT_t (i := 811) (by decide +kernel) (by decide +kernel)
theorem m_se_X8_wind : Cond.selects RX8 yX8_wind yX8_wind ∈ gT := gT_t (i := 812) (by decide +kernel) (by decide +kernel)
theorem m_co_X8_wind : Cond.code yX8_wind cX8_wind 5 (some .int) ∈ gT := gT_t (i := 813) (by decide +kernel) (by decide +kernel)
theorem m_ml_L_31 : Cond.methodLink RL 31 yX8_moveBoxes ∈ gT := gT_t (i := 814) (by decide +kernel) (by decide +kernel)
theorem m_in_X8_moveBoxes : Cond.instanceMethod yX8_moveBoxes ∈ gT := gT_t (i := 815) (by decide +kernel) (by decide +kernel)
theorem m_se_X8_moveBoxes : Cond.selects RX8 yX8_moveBoxes yX8_moveBoxes ∈ gT := gT_t (i := 816) (by decide +kernel) (by decide +kernel)
theorem m_co_X8_moveBoxes : Cond.code yX8_moveBoxes cX8_moveBoxes 3 (some .int) ∈ gT := gT_t (i := 817) (by decide +kernel) (by decide +kernel)
theorem m_ml_X8_105 : Cond.methodLink RX8 105 yX8_sets ∈ gT := gT_t (i := 818) (by decide +kernel) (by decide +kernel)
theorem m_in_X8_sets : Cond.instanceMethod yX8_sets ∈ gT := gT_t (i := 820) (by decide +kernel) (by decide +kernel)
theorem m_co_X8_sets : Cond.code yX8_sets cX8_sets 4 (some .int) ∈ gT := gT_t (i := 821) (by decide +kernel) (by decide +kernel)
theorem m_ml_L_35 : Cond.methodLink RL 35 yX8_draw ∈ gT := gT_t (i := 822) (by decide +kernel) (by decide +kernel)
theorem m_in_X8_draw : Cond.instanceMethod yX8_draw ∈ gT := gT_t (i := 823) (by decide +kernel) (by decide +kernel)
theorem m_se_X8_draw : Cond.selects RX8 yX8_draw yX8_draw ∈ gT := gT_t (i := 824) (by decide +kernel) (by decide +kernel)
theorem m_co_X8_draw : Cond.code yX8_draw cX8_draw 3 (some .int) ∈ gT := gT_t (i := 825) (by decide +kernel) (by decide +kernel)
theorem m_ml_X8_108 : Cond.methodLink RX8 108 yX8_isThread ∈ gT := gT_t (i := 826) (by decide +kernel) (by decide +kernel)
theorem m_st_X8_isThread : Cond.static yX8_isThread ∈ gT := gT_t (i := 827) (by decide +kernel) (by decide +kernel)
theorem m_co_X8_isThread : Cond.code yX8_isThread cX8_isThread 1 (some .boolean) ∈ gT := gT_t (i := 828) (by decide +kernel) (by decide +kernel)
theorem m_ml_L_39 : Cond.methodLink RL 39 yX8_mend ∈ gT := gT_t (i := 829) (by decide +kernel) (by decide +kernel)
theorem m_in_X8_mend : Cond.instanceMethod yX8_mend ∈ gT := gT_t (i := 830) (by decide +kernel) (by decide +kernel)
theorem m_se_X8_mend : Cond.selects RX8 yX8_mend yX8_mend ∈ gT := gT_t (i := 831) (by decide +kernel) (by decide +kernel)
theorem m_co_X8_mend : Cond.code yX8_mend cX8_mend 3 (some .int) ∈ gT := gT_t (i := 832) (by decide +kernel) (by decide +kernel)
theorem m_ml_L_43 : Cond.methodLink RL 43 yX8_setSpeed ∈ gT := gT_t (i := 833) (by decide +kernel) (by decide +kernel)
theorem m_in_X8_setSpeed : Cond.instanceMethod yX8_setSpeed ∈ gT := gT_t (i := 834) (by decide +kernel) (by decide +kernel)
theorem m_se_X8_setSpeed : Cond.selects RX8 yX8_setSpeed yX8_setSpeed ∈ gT := gT_t (i := 835) (by decide +kernel) (by decide +kernel)
theorem m_co_X8_setSpeed : Cond.code yX8_setSpeed cX8_setSpeed 2 (some .int) ∈ gT := gT_t (i := 836) (by decide +kernel) (by decide +kernel)
theorem m_ml_L_47 : Cond.methodLink RL 47 yX8_addCard ∈ gT := gT_t (i := 837) (by decide +kernel) (by decide +kernel)
theorem m_in_X8_addCard : Cond.instanceMethod yX8_addCard ∈ gT := gT_t (i := 838) (by decide +kernel) (by decide +kernel)
theorem m_se_X8_addCard : Cond.selects RX8 yX8_addCard yX8_addCard ∈ gT := gT_t (i := 839) (by decide +kernel) (by decide +kernel)
theorem m_co_X8_addCard : Cond.code yX8_addCard cX8_addCard 4 (some .int) ∈ gT := gT_t (i := 840) (by decide +kernel) (by decide +kernel)
theorem m_ml_X8_111 : Cond.methodLink RX8 111 yX8_addsCard ∈ gT := gT_t (i := 841) (by decide +kernel) (by decide +kernel)
theorem m_in_X8_addsCard : Cond.instanceMethod yX8_addsCard ∈ gT := gT_t (i := 843) (by decide +kernel) (by decide +kernel)
theorem m_co_X8_addsCard : Cond.code yX8_addsCard cX8_addsCard 5 none ∈ gT := gT_t (i := 844) (by decide +kernel) (by decide +kernel)
theorem m_ml_L_51 : Cond.methodLink RL 51 yX8_removeCard ∈ gT := gT_t (i := 845) (by decide +kernel) (by decide +kernel)
theorem m_in_X8_removeCard : Cond.instanceMethod yX8_removeCard ∈ gT := gT_t (i := 846) (by decide +kernel) (by decide +kernel)
theorem m_se_X8_removeCard : Cond.selects RX8 yX8_removeCard yX8_removeCard ∈ gT := gT_t (i := 847) (by decide +kernel) (by decide +kernel)
theorem m_co_X8_removeCard : Cond.code yX8_removeCard cX8_removeCard 3 (some .int) ∈ gT := gT_t (i := 848) (by decide +kernel) (by decide +kernel)
theorem m_ml_X8_114 : Cond.methodLink RX8 114 yX8_isCard ∈ gT := gT_t (i := 849) (by decide +kernel) (by decide +kernel)
theorem m_in_X8_isCard : Cond.instanceMethod yX8_isCard ∈ gT := gT_t (i := 851) (by decide +kernel) (by decide +kernel)
theorem m_co_X8_isCard : Cond.code yX8_isCard cX8_isCard 2 (some .boolean) ∈ gT := gT_t (i := 852) (by decide +kernel) (by decide +kernel)
theorem m_ml_L_55 : Cond.methodLink RL 55 yX8_turnTo ∈ gT := gT_t (i := 853) (by decide +kernel) (by decide +kernel)
theorem m_in_X8_turnTo : Cond.instanceMethod yX8_turnTo ∈ gT := gT_t (i := 854) (by decide +kernel) (by decide +kernel)
theorem m_se_X8_turnTo : Cond.selects RX8 yX8_turnTo yX8_turnTo ∈ gT := gT_t (i := 855) (by decide +kernel) (by decide +kernel)
theorem m_co_X8_turnTo : Cond.code yX8_turnTo cX8_turnTo 2 (some .int) ∈ gT := gT_t (i := 856) (by decide +kernel) (by decide +kernel)
theorem m_ml_L_68 : Cond.methodLink RL 68 yX8_count ∈ gT := gT_t (i := 857) (by decide +kernel) (by decide +kernel)
theorem m_in_X8_count : Cond.instanceMethod yX8_count ∈ gT := gT_t (i := 858) (by decide +kernel) (by decide +kernel)
theorem m_se_X8_count : Cond.selects RX8 yX8_count yX8_count ∈ gT := gT_t (i := 859) (by decide +kernel) (by decide +kernel)
theorem m_co_X8_count : Cond.code yX8_count cX8_count 2 (some .int) ∈ gT := gT_t (i := 860) (by decide +kernel) (by decide +kernel)
theorem m_ml_L_72 : Cond.methodLink RL 72 yX8_shuttle ∈ gT := gT_t (i := 861) (by decide +kernel) (by decide +kernel)
theorem m_in_X8_shuttle : Cond.instanceMethod yX8_shuttle ∈ gT := gT_t (i := 862) (by decide +kernel) (by decide +kernel)
theorem m_se_X8_shuttle : Cond.selects RX8 yX8_shuttle yX8_shuttle ∈ gT := gT_t (i := 863) (by decide +kernel) (by decide +kernel)
theorem m_co_X8_shuttle : Cond.code yX8_shuttle cX8_shuttle 3 (some .int) ∈ gT := gT_t (i := 864) (by decide +kernel) (by decide +kernel)
theorem m_ml_L_76 : Cond.methodLink RL 76 yX8_inBox ∈ gT := gT_t (i := 865) (by decide +kernel) (by decide +kernel)
theorem m_in_X8_inBox : Cond.instanceMethod yX8_inBox ∈ gT := gT_t (i := 866) (by decide +kernel) (by decide +kernel)
theorem m_se_X8_inBox : Cond.selects RX8 yX8_inBox yX8_inBox ∈ gT := gT_t (i := 867) (by decide +kernel) (by decide +kernel)
theorem m_co_X8_inBox : Cond.code yX8_inBox cX8_inBox 3 (some .int) ∈ gT := gT_t (i := 868) (by decide +kernel) (by decide +kernel)
theorem m_ml_L_80 : Cond.methodLink RL 80 yX8_thread ∈ gT := gT_t (i := 869) (by decide +kernel) (by decide +kernel)
theorem m_in_X8_thread : Cond.instanceMethod yX8_thread ∈ gT := gT_t (i := 870) (by decide +kernel) (by decide +kernel)
theorem m_se_X8_thread : Cond.selects RX8 yX8_thread yX8_thread ∈ gT := gT_t (i := 871) (by decide +kernel) (by decide +kernel)
theorem m_co_X8_thread : Cond.code yX8_thread cX8_thread 3 (some .int) ∈ gT := gT_t (i := 872) (by decide +kernel) (by decide +kernel)
theorem m_ml_X8_117 : Cond.methodLink RX8 117 yX8_ofThread ∈ gT := gT_t (i := 873) (by decide +kernel) (by decide +kernel)
theorem m_in_X8_ofThread : Cond.instanceMethod yX8_ofThread ∈ gT := gT_t (i := 875) (by decide +kernel) (by decide +kernel)
theorem m_co_X8_ofThread : Cond.code yX8_ofThread cX8_ofThread 3 (some .int) ∈ gT := gT_t (i := 876) (by decide +kernel) (by decide +kernel)
theorem m_ml_L_84 : Cond.methodLink RL 84 yX8_card ∈ gT := gT_t (i := 877) (by decide +kernel) (by decide +kernel)
theorem m_in_X8_card : Cond.instanceMethod yX8_card ∈ gT := gT_t (i := 878) (by decide +kernel) (by decide +kernel)
theorem m_se_X8_card : Cond.selects RX8 yX8_card yX8_card ∈ gT := gT_t (i := 879) (by decide +kernel) (by decide +kernel)
theorem m_co_X8_card : Cond.code yX8_card cX8_card 3 (some .int) ∈ gT := gT_t (i := 880) (by decide +kernel) (by decide +kernel)
theorem m_ml_X8_120 : Cond.methodLink RX8 120 yX8_ofCard ∈ gT := gT_t (i := 881) (by decide +kernel) (by decide +kernel)
theorem m_in_X8_ofCard : Cond.instanceMethod yX8_ofCard ∈ gT := gT_t (i := 883) (by decide +kernel) (by decide +kernel)
theorem m_co_X8_ofCard : Cond.code yX8_ofCard cX8_ofCard 3 (some .int) ∈ gT := gT_t (i := 884) (by decide +kernel) (by decide +kernel)
theorem m_ml_L_88 : Cond.methodLink RL 88 yX8_cloth ∈ gT := gT_t (i := 885) (by decide +kernel) (by decide +kernel)
theorem m_in_X8_cloth : Cond.instanceMethod yX8_cloth ∈ gT := gT_t (i := 886) (by decide +kernel) (by decide +kernel)
theorem m_se_X8_cloth : Cond.selects RX8 yX8_cloth yX8_cloth ∈ gT := gT_t (i := 887) (by decide +kernel) (by decide +kernel)
theorem m_co_X8_cloth : Cond.code yX8_cloth cX8_cloth 3 (some .int) ∈ gT := gT_t (i := 888) (by decide +kernel) (by decide +kernel)
theorem m_ml_X8_123 : Cond.methodLink RX8 123 yX8_shown ∈ gT := gT_t (i := 889) (by decide +kernel) (by decide +kernel)
theorem m_in_X8_shown : Cond.instanceMethod yX8_shown ∈ gT := gT_t (i := 891) (by decide +kernel) (by decide +kernel)
theorem m_co_X8_shown : Cond.code yX8_shown cX8_shown 3 (some .int) ∈ gT := gT_t (i := 892) (by decide +kernel) (by decide +kernel)
theorem m_ml_L_92 : Cond.methodLink RL 92 yX8_longestFloat ∈ gT := gT_t (i := 893) (by decide +kernel) (by decide +kernel)
theorem m_in_X8_longestFloat : Cond.instanceMethod yX8_longestFloat ∈ gT := gT_t (i := 894) (by decide +kernel) (by decide +kernel)
theorem m_se_X8_longestFloat : Cond.selects RX8 yX8_longestFloat yX8_longestFloat ∈ gT := gT_t (i := 895) (by decide +kernel) (by decide +kernel)
theorem m_co_X8_longestFloat : Cond.code yX8_longestFloat cX8_longestFloat 2 (some .int) ∈ gT := gT_t (i := 896) (by decide +kernel) (by decide +kernel)
theorem m_ml_X8_126 : Cond.methodLink RX8 126 yX8_floatOf ∈ gT := gT_t (i := 897) (by decide +kernel) (by decide +kernel)
theorem m_in_X8_floatOf : Cond.instanceMethod yX8_floatOf ∈ gT := gT_t (i := 899) (by decide +kernel) (by decide +kernel)
theorem m_co_X8_floatOf : Cond.code yX8_floatOf cX8_floatOf 6 (some .int) ∈ gT := gT_t (i := 900) (by decide +kernel) (by decide +kernel)
theorem m_ml_L_96 : Cond.methodLink RL 96 yX8_whyNot ∈ gT := gT_t (i := 901) (by decide +kernel) (by decide +kernel)
theorem m_in_X8_whyNot : Cond.instanceMethod yX8_whyNot ∈ gT := gT_t (i := 902) (by decide +kernel) (by decide +kernel)
theorem m_se_X8_whyNot : Cond.selects RX8 yX8_whyNot yX8_whyNot ∈ gT := gT_t (i := 903) (by decide +kernel) (by decide +kernel)
theorem m_co_X8_whyNot : Cond.code yX8_whyNot cX8_whyNot 1 (some .int) ∈ gT := gT_t (i := 904) (by decide +kernel) (by decide +kernel)
theorem m_ml_X8_129 : Cond.methodLink RX8 129 yX8_nextReason ∈ gT := gT_t (i := 905) (by decide +kernel) (by decide +kernel)
theorem m_in_X8_nextReason : Cond.instanceMethod yX8_nextReason ∈ gT := gT_t (i := 907) (by decide +kernel) (by decide +kernel)
theorem m_co_X8_nextReason : Cond.code yX8_nextReason cX8_nextReason 1 (some .int) ∈ gT := gT_t (i := 908) (by decide +kernel) (by decide +kernel)
theorem m_ml_L_100 : Cond.methodLink RL 100 yX8_picksLeft ∈ gT := gT_t (i := 909) (by decide +kernel) (by decide +kernel)
theorem m_in_X8_picksLeft : Cond.instanceMethod yX8_picksLeft ∈ gT := gT_t (i := 910) (by decide +kernel) (by decide +kernel)
theorem m_se_X8_picksLeft : Cond.selects RX8 yX8_picksLeft yX8_picksLeft ∈ gT := gT_t (i := 911) (by decide +kernel) (by decide +kernel)
theorem m_co_X8_picksLeft : Cond.code yX8_picksLeft cX8_picksLeft 1 (some .int) ∈ gT := gT_t (i := 912) (by decide +kernel) (by decide +kernel)
theorem m_ml_X8_132 : Cond.methodLink RX8 132 yX8_left ∈ gT := gT_t (i := 913) (by decide +kernel) (by decide +kernel)
theorem m_in_X8_left : Cond.instanceMethod yX8_left ∈ gT := gT_t (i := 915) (by decide +kernel) (by decide +kernel)
theorem m_co_X8_left : Cond.code yX8_left cX8_left 2 (some .int) ∈ gT := gT_t (i := 916) (by decide +kernel) (by decide +kernel)
theorem m_ml_L_104 : Cond.methodLink RL 104 yX8_firstEmpty ∈ gT := gT_t (i := 917) (by decide +kernel) (by decide +kernel)
theorem m_in_X8_firstEmpty : Cond.instanceMethod yX8_firstEmpty ∈ gT := gT_t (i := 918) (by decide +kernel) (by decide +kernel)
theorem m_se_X8_firstEmpty : Cond.selects RX8 yX8_firstEmpty yX8_firstEmpty ∈ gT := gT_t (i := 919) (by decide +kernel) (by decide +kernel)
theorem m_co_X8_firstEmpty : Cond.code yX8_firstEmpty cX8_firstEmpty 1 (some .int) ∈ gT := gT_t (i := 920) (by decide +kernel) (by decide +kernel)
theorem m_ml_X8_135 : Cond.methodLink RX8 135 yX8_emptyOne ∈ gT := gT_t (i := 921) (by decide +kernel) (by decide +kernel)
theorem m_in_X8_emptyOne : Cond.instanceMethod yX8_emptyOne ∈ gT := gT_t (i := 923) (by decide +kernel) (by decide +kernel)
theorem m_co_X8_emptyOne : Cond.code yX8_emptyOne cX8_emptyOne 2 (some .int) ∈ gT := gT_t (i := 924) (by decide +kernel) (by decide +kernel)
theorem m_ml_L_108 : Cond.methodLink RL 108 yX8_repeats ∈ gT := gT_t (i := 925) (by decide +kernel) (by decide +kernel)
theorem m_in_X8_repeats : Cond.instanceMethod yX8_repeats ∈ gT := gT_t (i := 926) (by decide +kernel) (by decide +kernel)
theorem m_se_X8_repeats : Cond.selects RX8 yX8_repeats yX8_repeats ∈ gT := gT_t (i := 927) (by decide +kernel) (by decide +kernel)
theorem m_co_X8_repeats : Cond.code yX8_repeats cX8_repeats 1 (some .int) ∈ gT := gT_t (i := 928) (by decide +kernel) (by decide +kernel)
theorem m_ml_X8_138 : Cond.methodLink RX8 138 yX8_isRepeating ∈ gT := gT_t (i := 929) (by decide +kernel) (by decide +kernel)
theorem m_in_X8_isRepeating : Cond.instanceMethod yX8_isRepeating ∈ gT := gT_t (i := 931) (by decide +kernel) (by decide +kernel)
theorem m_co_X8_isRepeating : Cond.code yX8_isRepeating cX8_isRepeating 3 (some .int) ∈ gT := gT_t (i := 932) (by decide +kernel) (by decide +kernel)
theorem m_ml_L_112 : Cond.methodLink RL 112 yX8_type ∈ gT := gT_t (i := 933) (by decide +kernel) (by decide +kernel)
theorem m_in_X8_type : Cond.instanceMethod yX8_type ∈ gT := gT_t (i := 934) (by decide +kernel) (by decide +kernel)
theorem m_se_X8_type : Cond.selects RX8 yX8_type yX8_type ∈ gT := gT_t (i := 935) (by decide +kernel) (by decide +kernel)
theorem m_co_X8_type : Cond.code yX8_type cX8_type 2 (some .int) ∈ gT := gT_t (i := 936) (by decide +kernel) (by decide +kernel)
theorem m_ml_L_116 : Cond.methodLink RL 116 yX8_clearText ∈ gT := gT_t (i := 937) (by decide +kernel) (by decide +kernel)
theorem m_in_X8_clearText : Cond.instanceMethod yX8_clearText ∈ gT := gT_t (i := 938) (by decide +kernel) (by decide +kernel)
theorem m_se_X8_clearText : Cond.selects RX8 yX8_clearText yX8_clearText ∈ gT := gT_t (i := 939) (by decide +kernel) (by decide +kernel)
theorem m_co_X8_clearText : Cond.code yX8_clearText cX8_clearText 2 (some .int) ∈ gT := gT_t (i := 940) (by decide +kernel) (by decide +kernel)
theorem m_ml_L_120 : Cond.methodLink RL 120 yX8_syntaxError ∈ gT := gT_t (i := 941) (by decide +kernel) (by decide +kernel)
theorem m_in_X8_syntaxError : Cond.instanceMethod yX8_syntaxError ∈ gT := gT_t (i := 942) (by decide +kernel) (by decide +kernel)
theorem m_se_X8_syntaxError : Cond.selects RX8 yX8_syntaxError yX8_syntaxError ∈ gT := gT_t (i := 943) (by decide +kernel) (by decide +kernel)
theorem m_co_X8_syntaxError : Cond.code yX8_syntaxError cX8_syntaxError 1 (some .int) ∈ gT := gT_t (i := 944) (by decide +kernel) (by decide +kernel)
theorem m_ml_X8_166 : Cond.methodLink RX8 166 yX8_findError ∈ gT := gT_t (i := 945) (by decide +kernel) (by decide +kernel)
theorem m_in_X8_findError : Cond.instanceMethod yX8_findError ∈ gT := gT_t (i := 947) (by decide +kernel) (by decide +kernel)
theorem m_co_X8_findError : Cond.code yX8_findError cX8_findError 1 (some .int) ∈ gT := gT_t (i := 948) (by decide +kernel) (by decide +kernel)
theorem m_ml_X8_162 : Cond.methodLink RX8 162 yX8_readsCard ∈ gT := gT_t (i := 949) (by decide +kernel) (by decide +kernel)
theorem m_in_X8_readsCard : Cond.instanceMethod yX8_readsCard ∈ gT := gT_t (i := 951) (by decide +kernel) (by decide +kernel)
theorem m_co_X8_readsCard : Cond.code yX8_readsCard cX8_readsCard 2 (some .boolean) ∈ gT := gT_t (i := 952) (by decide +kernel) (by decide +kernel)
theorem m_ml_X8_147 : Cond.methodLink RX8 147 yX8_character ∈ gT := gT_t (i := 953) (by decide +kernel) (by decide +kernel)
theorem m_in_X8_character : Cond.instanceMethod yX8_character ∈ gT := gT_t (i := 955) (by decide +kernel) (by decide +kernel)
theorem m_co_X8_character : Cond.code yX8_character cX8_character 2 (some .int) ∈ gT := gT_t (i := 956) (by decide +kernel) (by decide +kernel)
theorem m_ml_X8_153 : Cond.methodLink RX8 153 yX8_isNext ∈ gT := gT_t (i := 957) (by decide +kernel) (by decide +kernel)
theorem m_in_X8_isNext : Cond.instanceMethod yX8_isNext ∈ gT := gT_t (i := 959) (by decide +kernel) (by decide +kernel)
theorem m_co_X8_isNext : Cond.code yX8_isNext cX8_isNext 3 (some .boolean) ∈ gT := gT_t (i := 960) (by decide +kernel) (by decide +kernel)
theorem m_ml_L_124 : Cond.methodLink RL 124 yX8_readCards ∈ gT := gT_t (i := 961) (by decide +kernel) (by decide +kernel)
theorem m_in_X8_readCards : Cond.instanceMethod yX8_readCards ∈ gT := gT_t (i := 962) (by decide +kernel) (by decide +kernel)
theorem m_se_X8_readCards : Cond.selects RX8 yX8_readCards yX8_readCards ∈ gT := gT_t (i := 963) (by decide +kernel) (by decide +kernel)
theorem m_co_X8_readCards : Cond.code yX8_readCards cX8_readCards 3 (some .int) ∈ gT := gT_t (i := 964) (by decide +kernel) (by decide +kernel)
theorem m_ml_L_128 : Cond.methodLink RL 128 yX8_undo ∈ gT := gT_t (i := 965) (by decide +kernel) (by decide +kernel)
theorem m_in_X8_undo : Cond.instanceMethod yX8_undo ∈ gT := gT_t (i := 966) (by decide +kernel) (by decide +kernel)
theorem m_se_X8_undo : Cond.selects RX8 yX8_undo yX8_undo ∈ gT := gT_t (i := 967) (by decide +kernel) (by decide +kernel)
theorem m_co_X8_undo : Cond.code yX8_undo cX8_undo 1 (some .int) ∈ gT := gT_t (i := 968) (by decide +kernel) (by decide +kernel)
theorem m_ml_L_133 : Cond.methodLink RL 133 yX8_digest ∈ gT := gT_t (i := 969) (by decide +kernel) (by decide +kernel)
theorem m_in_X8_digest : Cond.instanceMethod yX8_digest ∈ gT := gT_t (i := 970) (by decide +kernel) (by decide +kernel)
theorem m_se_X8_digest : Cond.selects RX8 yX8_digest yX8_digest ∈ gT := gT_t (i := 971) (by decide +kernel) (by decide +kernel)
theorem m_co_X8_digest : Cond.code yX8_digest cX8_digest 5 (some .long) ∈ gT := gT_t (i := 972) (by decide +kernel) (by decide +kernel)
theorem m_kl_X8_169 : Cond.constantLong RX8 169 334 ∈ gT := gT_t (i := 973) (by decide +kernel) (by decide +kernel)
theorem m_kl_X8_171 : Cond.constantLong RX8 171 31 ∈ gT := gT_t (i := 974) (by decide +kernel) (by decide +kernel)
theorem m_se_X7_saveBeforeChange : Cond.selects RX7 yX7_saveBeforeChange yX7_saveBeforeChange ∈ gT := gT_p (i := 0) (by decide +kernel) (by decide +kernel)
theorem m_se_X7_save : Cond.selects RX7 yX7_save yX7_save ∈ gT := gT_p (i := 1) (by decide +kernel) (by decide +kernel)
theorem m_se_X1_startAgainBehindLast : Cond.selects RX1 yX1_startAgainBehindLast yX1_startAgainBehindLast ∈ gT := gT_p (i := 2) (by decide +kernel) (by decide +kernel)
theorem m_se_X3_sideTooFar : Cond.selects RX3 yX3_sideTooFar yX3_sideTooFar ∈ gT := gT_p (i := 3) (by decide +kernel) (by decide +kernel)
theorem m_se_X3_shuttleOn : Cond.selects RX3 yX3_shuttleOn yX3_shuttleOn ∈ gT := gT_p (i := 4) (by decide +kernel) (by decide +kernel)
theorem m_se_X2_slotOf : Cond.selects RX2 yX2_slotOf yX2_slotOf ∈ gT := gT_p (i := 5) (by decide +kernel) (by decide +kernel)
theorem m_se_X0_goTo : Cond.selects RX0 yX0_goTo yX0_goTo ∈ gT := gT_p (i := 6) (by decide +kernel) (by decide +kernel)
theorem m_se_X0_acceptsFrame : Cond.selects RX0 yX0_acceptsFrame yX0_acceptsFrame ∈ gT := gT_p (i := 7) (by decide +kernel) (by decide +kernel)
theorem m_se_X0_acceptsLeft : Cond.selects RX0 yX0_acceptsLeft yX0_acceptsLeft ∈ gT := gT_p (i := 8) (by decide +kernel) (by decide +kernel)
theorem m_se_X0_acceptsRight : Cond.selects RX0 yX0_acceptsRight yX0_acceptsRight ∈ gT := gT_p (i := 9) (by decide +kernel) (by decide +kernel)
theorem m_se_X0_startNext : Cond.selects RX0 yX0_startNext yX0_startNext ∈ gT := gT_p (i := 10) (by decide +kernel) (by decide +kernel)
theorem m_se_X7_cardsInText : Cond.selects RX7 yX7_cardsInText yX7_cardsInText ∈ gT := gT_p (i := 11) (by decide +kernel) (by decide +kernel)
theorem m_se_X7_hashShuttles : Cond.selects RX7 yX7_hashShuttles yX7_hashShuttles ∈ gT := gT_p (i := 12) (by decide +kernel) (by decide +kernel)
theorem m_se_X7_hashThreads : Cond.selects RX7 yX7_hashThreads yX7_hashThreads ∈ gT := gT_p (i := 13) (by decide +kernel) (by decide +kernel)
theorem m_se_X7_hashCards : Cond.selects RX7 yX7_hashCards yX7_hashCards ∈ gT := gT_p (i := 14) (by decide +kernel) (by decide +kernel)
theorem m_se_X7_hashCloth : Cond.selects RX7 yX7_hashCloth yX7_hashCloth ∈ gT := gT_p (i := 15) (by decide +kernel) (by decide +kernel)
theorem m_se_X8_setShuttle : Cond.selects RX8 yX8_setShuttle yX8_setShuttle ∈ gT := gT_p (i := 16) (by decide +kernel) (by decide +kernel)
theorem m_se_X8_setThread : Cond.selects RX8 yX8_setThread yX8_setThread ∈ gT := gT_p (i := 17) (by decide +kernel) (by decide +kernel)
theorem m_se_X8_record : Cond.selects RX8 yX8_record yX8_record ∈ gT := gT_p (i := 18) (by decide +kernel) (by decide +kernel)
theorem m_se_X8_findReason : Cond.selects RX8 yX8_findReason yX8_findReason ∈ gT := gT_p (i := 19) (by decide +kernel) (by decide +kernel)
theorem m_se_X8_cardPart : Cond.selects RX8 yX8_cardPart yX8_cardPart ∈ gT := gT_p (i := 20) (by decide +kernel) (by decide +kernel)
theorem m_se_X8_shuttleIn : Cond.selects RX8 yX8_shuttleIn yX8_shuttleIn ∈ gT := gT_p (i := 21) (by decide +kernel) (by decide +kernel)
theorem m_se_X8_shuttlePart : Cond.selects RX8 yX8_shuttlePart yX8_shuttlePart ∈ gT := gT_p (i := 22) (by decide +kernel) (by decide +kernel)
theorem m_se_X8_says : Cond.selects RX8 yX8_says yX8_says ∈ gT := gT_p (i := 23) (by decide +kernel) (by decide +kernel)
theorem m_se_X8_firstBroken : Cond.selects RX8 yX8_firstBroken yX8_firstBroken ∈ gT := gT_p (i := 24) (by decide +kernel) (by decide +kernel)
theorem m_se_X8_threadPart : Cond.selects RX8 yX8_threadPart yX8_threadPart ∈ gT := gT_p (i := 25) (by decide +kernel) (by decide +kernel)
theorem m_se_X8_isTooFar : Cond.selects RX8 yX8_isTooFar yX8_isTooFar ∈ gT := gT_p (i := 26) (by decide +kernel) (by decide +kernel)
theorem m_se_X8_addsRow : Cond.selects RX8 yX8_addsRow yX8_addsRow ∈ gT := gT_p (i := 27) (by decide +kernel) (by decide +kernel)
theorem m_se_X8_threadsOf : Cond.selects RX8 yX8_threadsOf yX8_threadsOf ∈ gT := gT_p (i := 28) (by decide +kernel) (by decide +kernel)
theorem m_se_X8_moves : Cond.selects RX8 yX8_moves yX8_moves ∈ gT := gT_p (i := 29) (by decide +kernel) (by decide +kernel)
theorem m_se_X8_rowPart : Cond.selects RX8 yX8_rowPart yX8_rowPart ∈ gT := gT_p (i := 30) (by decide +kernel) (by decide +kernel)
theorem m_se_X8_recordOther : Cond.selects RX8 yX8_recordOther yX8_recordOther ∈ gT := gT_p (i := 31) (by decide +kernel) (by decide +kernel)
theorem m_se_X8_inBoxes : Cond.selects RX8 yX8_inBoxes yX8_inBoxes ∈ gT := gT_p (i := 32) (by decide +kernel) (by decide +kernel)
theorem m_se_X8_sets : Cond.selects RX8 yX8_sets yX8_sets ∈ gT := gT_p (i := 33) (by decide +kernel) (by decide +kernel)
theorem m_se_X8_addsCard : Cond.selects RX8 yX8_addsCard yX8_addsCard ∈ gT := gT_p (i := 34) (by decide +kernel) (by decide +kernel)
theorem m_se_X8_isCard : Cond.selects RX8 yX8_isCard yX8_isCard ∈ gT := gT_p (i := 35) (by decide +kernel) (by decide +kernel)
theorem m_se_X8_ofThread : Cond.selects RX8 yX8_ofThread yX8_ofThread ∈ gT := gT_p (i := 36) (by decide +kernel) (by decide +kernel)
theorem m_se_X8_ofCard : Cond.selects RX8 yX8_ofCard yX8_ofCard ∈ gT := gT_p (i := 37) (by decide +kernel) (by decide +kernel)
theorem m_se_X8_shown : Cond.selects RX8 yX8_shown yX8_shown ∈ gT := gT_p (i := 38) (by decide +kernel) (by decide +kernel)
theorem m_se_X8_floatOf : Cond.selects RX8 yX8_floatOf yX8_floatOf ∈ gT := gT_p (i := 39) (by decide +kernel) (by decide +kernel)
theorem m_se_X8_nextReason : Cond.selects RX8 yX8_nextReason yX8_nextReason ∈ gT := gT_p (i := 40) (by decide +kernel) (by decide +kernel)
theorem m_se_X8_left : Cond.selects RX8 yX8_left yX8_left ∈ gT := gT_p (i := 41) (by decide +kernel) (by decide +kernel)
theorem m_se_X8_emptyOne : Cond.selects RX8 yX8_emptyOne yX8_emptyOne ∈ gT := gT_p (i := 42) (by decide +kernel) (by decide +kernel)
theorem m_se_X8_isRepeating : Cond.selects RX8 yX8_isRepeating yX8_isRepeating ∈ gT := gT_p (i := 43) (by decide +kernel) (by decide +kernel)
theorem m_se_X8_findError : Cond.selects RX8 yX8_findError yX8_findError ∈ gT := gT_p (i := 44) (by decide +kernel) (by decide +kernel)
theorem m_se_X8_readsCard : Cond.selects RX8 yX8_readsCard yX8_readsCard ∈ gT := gT_p (i := 45) (by decide +kernel) (by decide +kernel)
theorem m_se_X8_character : Cond.selects RX8 yX8_character yX8_character ∈ gT := gT_p (i := 46) (by decide +kernel) (by decide +kernel)
theorem m_se_X8_isNext : Cond.selects RX8 yX8_isNext yX8_isNext ∈ gT := gT_p (i := 47) (by decide +kernel) (by decide +kernel)
def gN : List (String × Nat × MethodName × String) := [(RX7, 11, yX4_init, "DropBoxLoom"), (RX4, 11, yX3_init, "DropBoxLoom"), (RX3, 27, yX1_init, "DropBoxLoom"), (RX4, 20, yX2_init, "DropBoxLoom"), (RX7, 29, yX3_init, "DropBoxLoom"), (RX7, 36, yX0_init, "DropBoxLoom"), (RX5, 30, yX7_isShuttle, "DropBoxLoom"), (RX6, 24, yX7_contains, "DropBoxLoom"), (RX2, 50, yX7_contains, "DropBoxLoom"), (RX0, 44, yX7_isWithin, "DropBoxLoom"), (RX0, 48, yX7_isBox, "DropBoxLoom")]
theorem m_mn_X7_11 : ((RX7, 11, yX4_init, "DropBoxLoom") : String × Nat × MethodName × String) ∈ gN := List.mem_of_getElem? (i := 0) rfl
theorem m_mn_X4_11 : ((RX4, 11, yX3_init, "DropBoxLoom") : String × Nat × MethodName × String) ∈ gN := List.mem_of_getElem? (i := 1) rfl
theorem m_mn_X3_27 : ((RX3, 27, yX1_init, "DropBoxLoom") : String × Nat × MethodName × String) ∈ gN := List.mem_of_getElem? (i := 2) rfl
theorem m_mn_X4_20 : ((RX4, 20, yX2_init, "DropBoxLoom") : String × Nat × MethodName × String) ∈ gN := List.mem_of_getElem? (i := 3) rfl
theorem m_mn_X7_29 : ((RX7, 29, yX3_init, "DropBoxLoom") : String × Nat × MethodName × String) ∈ gN := List.mem_of_getElem? (i := 4) rfl
theorem m_mn_X7_36 : ((RX7, 36, yX0_init, "DropBoxLoom") : String × Nat × MethodName × String) ∈ gN := List.mem_of_getElem? (i := 5) rfl
theorem m_mn_X5_30 : ((RX5, 30, yX7_isShuttle, "DropBoxLoom") : String × Nat × MethodName × String) ∈ gN := List.mem_of_getElem? (i := 6) rfl
theorem m_mn_X6_24 : ((RX6, 24, yX7_contains, "DropBoxLoom") : String × Nat × MethodName × String) ∈ gN := List.mem_of_getElem? (i := 7) rfl
theorem m_mn_X2_50 : ((RX2, 50, yX7_contains, "DropBoxLoom") : String × Nat × MethodName × String) ∈ gN := List.mem_of_getElem? (i := 8) rfl
theorem m_mn_X0_44 : ((RX0, 44, yX7_isWithin, "DropBoxLoom") : String × Nat × MethodName × String) ∈ gN := List.mem_of_getElem? (i := 9) rfl
theorem m_mn_X0_48 : ((RX0, 48, yX7_isBox, "DropBoxLoom") : String × Nat × MethodName × String) ∈ gN := List.mem_of_getElem? (i := 10) rfl
theorem gN_tbl : ∀ q ∈ gN, Cond.methodLinkNest q.1 q.2.1 q.2.2.1 q.2.2.2 ∈ lw_tbl := by decide +kernel
theorem gO_tbl : Cond.arrayOver (.object RX4) ∈ lw_tbl := List.mem_append_right _ (List.mem_of_getElem? (i := 191) (by decide +kernel))
theorem m_ws_X0 : ∀ w ∈ u_ws RX0 TX0 5, w ∈ gT := by decide +kernel
theorem m_ws_X1 : ∀ w ∈ u_ws RX1 TX1 5, w ∈ gT := by decide +kernel
theorem m_ws_X2 : ∀ w ∈ u_ws RX2 TX2 9, w ∈ gT := by decide +kernel
theorem m_ws_X3 : ∀ w ∈ u_ws RX3 TX3 6, w ∈ gT := by decide +kernel
theorem m_ws_X4 : ∀ w ∈ u_ws RX4 TX4 7, w ∈ gT := by decide +kernel
theorem m_ws_X5 : ∀ w ∈ u_ws RX5 TX5 4, w ∈ gT := by decide +kernel
theorem m_ws_X6 : ∀ w ∈ u_ws RX6 TX6 2, w ∈ gT := by decide +kernel
theorem m_ws_X7 : ∀ w ∈ u_ws RX7 TX7 8, w ∈ gT := by decide +kernel
theorem m_ws_X8 : ∀ w ∈ u_ws RX8 TX8 12, w ∈ gT := by decide +kernel
end
section
/-! geometry: the whole heap that the claim makes is one interval of cells from n0 on; a picture f says what each of them holds -/
abbrev Ge : Type := va_G × (ClassId × ClassId × ClassId) × Nat
abbrev Pic : Type := Nat → va_E
def tyG (g : Ge) : List (ClassId × FieldType) := [(g.2.1.1, .int), (g.2.1.2.1, .char), (g.2.1.2.2, .object RX4)]
def gA (g : Ge) : Nat → Prop := fun q => g.2.2 ≤ q
def wl (n0 N : Nat) (f : Pic) : va_W := (List.range N).map (fun k => (n0 + k, f (n0 + k)))
def HP (g : Ge) (N : Nat) (f : Pic) (H : Heap) : Prop := va_P g.1 vwCl (wl g.2.2 N f) H
def KK (g : Ge) (U : State) : Prop := va_K g.1 vwCl (tyG g) U ∧ (∀ q ∈ gN, va_Nw (.methodLinkNest q.1 q.2.1 q.2.2.1 q.2.2.2) U) ∧ va_AO RX4 U
theorem KK.warm {g : Ge} {s U : State} (hW : s.WarmedH U.vm) (h : KK g s) : KK g U := ⟨va_K.moved hW.alike h.1, fun q hq => va_Nw.warmM hW (h.2.1 q hq), va_AO.moved hW.alike h.2.2⟩
theorem KK.calling {g : Ge} {U : State} {g' : JFrame} {mk : MethodId} {a : Array Value} (h : KK g U) : KK g (U.calling g' mk a) := ⟨va_K.moved (u := U) (U := U.calling g' mk a) (Vm.Alike.refl U.vm) h.1, fun q hq => va_Nw.same (u := U) (U := U.calling g' mk a) rfl rfl (h.2.1 q hq), va_AO.moved (u := U) (U := U.calling g' mk a) (Vm.Alike.refl U.vm) h.2.2⟩
def upP (f : Pic) (a : Nat) (e : va_E) : Pic := fun b => if b = a then e else f b
theorem wl_len (n0 N : Nat) (f : Pic) : (wl n0 N f).length = N := by simp [wl]
theorem wl_get {n0 N k : Nat} {f : Pic} (h : k < N) : (wl n0 N f)[k]? = some (n0 + k, f (n0 + k)) := by simp [wl, h]
theorem wl_inv {n0 N k : Nat} {f : Pic} {q : Nat × va_E} (h : (wl n0 N f)[k]? = some q) : k < N ∧ q = (n0 + k, f (n0 + k)) := by
  have hk : k < N := by
    have := (List.getElem?_eq_some_iff.mp h).1
    rwa [wl_len] at this
  rw [wl_get hk] at h
  exact ⟨hk, (Option.some.inj h).symm⟩
theorem wl_at {n0 N a : Nat} {f : Pic} (h1 : n0 ≤ a) (h2 : a < n0 + N) : (wl n0 N f)[a - n0]? = some (a, f a) := by
  have e : n0 + (a - n0) = a := by omega
  rw [wl_get (by omega), e]
theorem wl_atE {n0 N a : Nat} {f : Pic} {c : va_E} (h1 : n0 ≤ a) (h2 : a < n0 + N) (h : f a = c) : (wl n0 N f)[a - n0]? = some (a, c) := by
  rw [wl_at h1 h2, h]
theorem wl_set {n0 N a : Nat} {f : Pic} {e : va_E} (h1 : n0 ≤ a) (h2 : a < n0 + N) : (wl n0 N f).set (a - n0) (a, e) = wl n0 N (upP f a e) := by
  apply List.ext_getElem?
  intro k
  by_cases hk : k < N
  · rw [wl_get hk]
    by_cases e1 : a - n0 = k
    · subst e1
      rw [List.getElem?_set_self (by rw [wl_len]; exact hk)]
      have e : n0 + (a - n0) = a := by omega
      simp [upP, e]
    · rw [List.getElem?_set_ne e1, wl_get hk]
      have : n0 + k ≠ a := by omega
      simp [upP, this]
  · rw [List.getElem?_eq_none (by rw [List.length_set, wl_len]; omega), List.getElem?_eq_none (by rw [wl_len]; omega)]
theorem wl_push (n0 N : Nat) (f : Pic) (e : va_E) : wl n0 N f ++ [(n0 + N, e)] = wl n0 (N + 1) (upP f (n0 + N) e) := by
  apply List.ext_getElem?
  intro k
  by_cases hk : k < N
  · rw [List.getElem?_append_left (by rw [wl_len]; exact hk), wl_get hk, wl_get (by omega)]
    have : n0 + k ≠ n0 + N := by omega
    simp only [upP, this, if_false]
  · rw [List.getElem?_append_right (by rw [wl_len]; omega), wl_len]
    by_cases e1 : k = N
    · subst e1
      rw [wl_get (by omega)]
      simp [upP]
    · rw [List.getElem?_eq_none (by simp; omega), List.getElem?_eq_none (by rw [wl_len]; omega)]
theorem wl_D (g : Ge) (N : Nat) (f : Pic) : va_D (gA g) (wl g.2.2 N f) := by
  refine ⟨fun i j p q hi hj hpq => ?_, fun k q hk => ?_⟩
  · obtain ⟨-, rfl⟩ := wl_inv hi
    obtain ⟨-, rfl⟩ := wl_inv hj
    have : g.2.2 + i = g.2.2 + j := hpq
    omega
  · obtain ⟨-, rfl⟩ := wl_inv hk
    exact Nat.le_add_right _ _
/-! a block: the cells L from o on -/
def ovr (f : Pic) (o : Nat) (L : List va_E) : Pic := fun a => if o ≤ a then (match L[a - o]? with | some e => e | none => f a) else f a
def spl (L : List va_E) (j : Nat) (M : List va_E) : List va_E := L.take j ++ (M ++ L.drop (j + M.length))
def sbl (L : List va_E) (j n : Nat) : List va_E := (L.drop j).take n
theorem ovr_at {f : Pic} {o j : Nat} {L : List va_E} {c : va_E} (h : L[j]? = some c) : ovr f o L (o + j) = c := by simp [ovr, h]
theorem ovr_lo {f : Pic} {o a : Nat} {L : List va_E} (h : a < o) : ovr f o L a = f a := by
  have : ¬ o ≤ a := by omega
  simp [ovr, this]
theorem ovr_hi {f : Pic} {o a : Nat} {L : List va_E} (h : o + L.length ≤ a) : ovr f o L a = f a := by
  have h1 : o ≤ a := by omega
  have h2 : L[a - o]? = none := List.getElem?_eq_none (by omega)
  simp [ovr, h1, h2]
theorem ovr_out {f : Pic} {o a : Nat} {L : List va_E} (h : a < o ∨ o + L.length ≤ a) : ovr f o L a = f a := by
  rcases h with h | h
  · exact ovr_lo h
  · exact ovr_hi h
theorem ovr_nil (f : Pic) (o : Nat) : ovr f o [] = f := by
  funext a
  exact ovr_out (by simp; omega)
theorem ovr_up {f : Pic} {o j : Nat} {L : List va_E} {e : va_E} (h : j < L.length) : upP (ovr f o L) (o + j) e = ovr f o (L.set j e) := by
  funext a
  by_cases h1 : a < o
  · have : a ≠ o + j := by omega
    simp only [upP, this, if_false, ovr_lo h1]
  · obtain ⟨i, rfl⟩ : ∃ i, a = o + i := ⟨a - o, by omega⟩
    by_cases hij : i = j
    · subst hij
      have e1 : ovr f o (L.set i e) (o + i) = e := ovr_at (List.getElem?_set_self h)
      rw [e1]; simp [upP]
    · have h2 : o + i ≠ o + j := by omega
      simp only [upP, h2, if_false]
      simp only [ovr, Nat.le_add_right, if_true, Nat.add_sub_cancel_left]
      rw [List.getElem?_set_ne (Ne.symm hij)]
theorem spl_len {L M : List va_E} {j : Nat} (h : j + M.length ≤ L.length) : (spl L j M).length = L.length := by
  simp [spl]; omega
theorem spl_get {L M : List va_E} {j i : Nat} (h : j + M.length ≤ L.length) : (spl L j M)[i]? = if j ≤ i ∧ i < j + M.length then M[i - j]? else L[i]? := by
  unfold spl
  have hl : (L.take j).length = j := by rw [List.length_take]; omega
  by_cases h1 : i < j
  · rw [List.getElem?_append_left (by omega), List.getElem?_take, if_pos h1, if_neg (by omega)]
  · rw [List.getElem?_append_right (by omega), hl]
    by_cases h2 : i < j + M.length
    · rw [List.getElem?_append_left (by omega), if_pos ⟨by omega, h2⟩]
    · rw [List.getElem?_append_right (by omega), List.getElem?_drop, if_neg (by omega)]
      congr 1; omega
theorem ovr_spl {f : Pic} {o j : Nat} {L M : List va_E} (h : j + M.length ≤ L.length) : ovr (ovr f o L) (o + j) M = ovr f o (spl L j M) := by
  funext a
  by_cases h1 : a < o
  · rw [ovr_lo (by omega), ovr_lo h1, ovr_lo h1]
  · obtain ⟨i, rfl⟩ : ∃ i, a = o + i := ⟨a - o, by omega⟩
    by_cases h2 : j ≤ i ∧ i < j + M.length
    · obtain ⟨c, hc⟩ : ∃ c, M[i - j]? = some c := ⟨_, List.getElem?_eq_getElem (by omega)⟩
      rw [ovr_at (o := o) (j := i) (c := c) (by rw [spl_get h, if_pos h2]; exact hc)]
      have e : o + i = (o + j) + (i - j) := by omega
      rw [e, ovr_at hc]
    · rw [ovr_out (o := o + j) (by omega)]
      simp only [ovr, Nat.le_add_right, if_true, Nat.add_sub_cancel_left]
      rw [spl_get h, if_neg h2]
theorem ovr_foc {f : Pic} {o j : Nat} {L M : List va_E} (h : j + M.length ≤ L.length) (hs : sbl L j M.length = M) : ovr (ovr f o L) (o + j) M = ovr f o L := by
  rw [ovr_spl h]
  congr 1
  apply List.ext_getElem?
  intro i
  rw [spl_get h]
  by_cases h2 : j ≤ i ∧ i < j + M.length
  · rw [if_pos h2]
    conv => lhs; rw [← hs]
    unfold sbl
    rw [List.getElem?_take, if_pos (by omega), List.getElem?_drop]
    congr 1; omega
  · rw [if_neg h2]
theorem ovr_swap {f : Pic} {o1 o2 : Nat} {L1 L2 : List va_E} (h : o1 + L1.length ≤ o2 ∨ o2 + L2.length ≤ o1) : ovr (ovr f o1 L1) o2 L2 = ovr (ovr f o2 L2) o1 L1 := by
  funext a
  by_cases h1 : o1 ≤ a ∧ a < o1 + L1.length
  · rw [ovr_out (o := o2) (by omega)]
    obtain ⟨i, rfl⟩ : ∃ i, a = o1 + i := ⟨a - o1, by omega⟩
    obtain ⟨c, hc⟩ : ∃ c, L1[i]? = some c := ⟨_, List.getElem?_eq_getElem (by omega)⟩
    rw [ovr_at hc, ovr_at hc]
  · rw [ovr_out (o := o1) (a := a) (by omega)]
    by_cases h2 : o2 ≤ a ∧ a < o2 + L2.length
    · obtain ⟨i, rfl⟩ : ∃ i, a = o2 + i := ⟨a - o2, by omega⟩
      obtain ⟨c, hc⟩ : ∃ c, L2[i]? = some c := ⟨_, List.getElem?_eq_getElem (by omega)⟩
      rw [ovr_at hc, ovr_at hc]
    · rw [ovr_out (o := o2) (by omega), ovr_out (o := o1) (by omega), ovr_out (o := o2) (by omega)]
theorem ovr_ovr {f : Pic} {o : Nat} {L M : List va_E} (h : L.length = M.length) : ovr (ovr f o L) o M = ovr f o M := by
  funext a
  by_cases h1 : o ≤ a ∧ a < o + M.length
  · obtain ⟨i, rfl⟩ : ∃ i, a = o + i := ⟨a - o, by omega⟩
    obtain ⟨c, hc⟩ : ∃ c, M[i]? = some c := ⟨_, List.getElem?_eq_getElem (by omega)⟩
    rw [ovr_at hc, ovr_at hc]
  · rw [ovr_out (by omega), ovr_out (by omega), ovr_out (by omega)]
/-- a block lies in the heap -/
def BB (g : Ge) (N o n : Nat) : Prop := g.2.2 ≤ o ∧ o + n ≤ g.2.2 + N
theorem BB.lo {g : Ge} {N o n j : Nat} (h : BB g N o n) : g.2.2 ≤ o + j := Nat.le_trans h.1 (Nat.le_add_right _ _)
theorem BB.hi {g : Ge} {N o n j : Nat} (h : BB g N o n) (hj : j < n) : o + j < g.2.2 + N := by have := h.2; omega
theorem BB.sub {g : Ge} {N o n j k : Nat} (h : BB g N o n) (hj : j + k ≤ n) : BB g N (o + j) k := ⟨h.lo, by have := h.2; omega⟩
/-! locals: none where nothing is known -/
def lvp : Nat → List (Option Value) → List (Nat × Value)
  | _, [] => []
  | i, some v :: t => (i, v) :: lvp (i + 1) t
  | i, none :: t => lvp (i + 1) t
theorem lvp_mem : ∀ (l : List (Option Value)) (i : Nat) (q : Nat × Value), q ∈ lvp i l ↔ ∃ k, l[k]? = some (some q.2) ∧ q.1 = i + k
  | [], i, q => by simp [lvp]
  | some v :: t, i, q => by
    rw [show lvp i (some v :: t) = (i, v) :: lvp (i + 1) t from rfl, List.mem_cons, lvp_mem t (i + 1) q]
    constructor
    · rintro (h | ⟨k, h1, h2⟩)
      · exact ⟨0, by rw [h]; rfl, by rw [h]; rfl⟩
      · exact ⟨k + 1, by simpa using h1, by omega⟩
    · rintro ⟨k, h1, h2⟩
      cases k with
      | zero =>
        left
        have : v = q.2 := by simpa using h1
        rw [this]
        exact Prod.ext (by simpa using h2) rfl
      | succ k => exact Or.inr ⟨k, by simpa using h1, by omega⟩
  | none :: t, i, q => by
    rw [show lvp i (none :: t) = lvp (i + 1) t from rfl, lvp_mem t (i + 1) q]
    constructor
    · rintro ⟨k, h1, h2⟩
      exact ⟨k + 1, by simpa using h1, by omega⟩
    · rintro ⟨k, h1, h2⟩
      cases k with
      | zero => simp at h1
      | succ k => exact ⟨k, by simpa using h1, by omega⟩
theorem lvp_at {ls : Array Slot} {nL : Nat} {lv : List (Option Value)} (h : lv_has ls nL (lvp 0 lv)) {i : Nat} {v : Value} (hi : lv[i]? = some (some v)) : ls[i]? = some (.val v) :=
  h.2.2 (i, v) ((lvp_mem lv 0 (i, v)).mpr ⟨i, hi, by simp⟩)
/-- no long below place i -/
def lvok (lv : List (Option Value)) : Nat → Bool
  | 0 => true
  | i + 1 => match lv[i]? with
    | some (some v) => v.category != 2
    | _ => true
theorem lv_weak {ls : Array Slot} {nL : Nat} {l l' : List (Nat × Value)} (h : lv_has ls nL l) (hs : ∀ q ∈ l', q ∈ l) : lv_has ls nL l' := ⟨h.1, h.2.1, fun q hq => h.2.2 q (hs q hq)⟩
theorem lvp_set1 {ls : Array Slot} {nL : Nat} {lv : List (Option Value)} {i : Nat} {v : Value} (hok : lvok lv i = true) (h : lv_has ls nL ((i, v) :: (lvp 0 lv).filter (fun q => !(q.1 == i) && !(q.1 + 1 == i && q.2.category == 2)))) : lv_has ls nL (lvp 0 (lv.set i (some v))) := by
  refine lv_weak h fun q hq => ?_
  obtain ⟨k, h1, h2⟩ := (lvp_mem _ _ _).mp hq
  have hk : q.1 = k := by omega
  by_cases e : i = k
  · subst e
    have hl : i < lv.length := by
      have := (List.getElem?_eq_some_iff.mp h1).1
      simpa using this
    rw [List.getElem?_set_self hl] at h1
    have : v = q.2 := by simpa using h1
    rw [List.mem_cons]
    left
    exact Prod.ext hk this.symm
  · rw [List.getElem?_set_ne e] at h1
    rw [List.mem_cons]
    right
    refine List.mem_filter.mpr ⟨(lvp_mem _ _ _).mpr ⟨k, h1, h2⟩, ?_⟩
    have e1 : (q.1 == i) = false := by rw [hk]; simp; omega
    have e2 : (q.1 + 1 == i && q.2.category == 2) = false := by
      cases i with
      | zero => simp
      | succ i =>
        by_cases hi : k = i
        · subst hi
          simp only [lvok, h1] at hok
          simp only [bne_iff_ne, ne_eq] at hok
          simp [hok]
        · have : ¬ (q.1 + 1 = i + 1) := by omega
          simp; omega
    rw [e1, e2]; rfl
theorem lvp_set2 {ls : Array Slot} {nL : Nat} {lv : List (Option Value)} {i : Nat} {v : Value} (hok : lvok lv i = true) (h : lv_has ls nL ((i, v) :: (lvp 0 lv).filter (fun q => !(q.1 == i) && (!(q.1 == i + 1) && !(q.1 + 1 == i && q.2.category == 2))))) : lv_has ls nL (lvp 0 ((lv.set i (some v)).set (i + 1) none)) := by
  refine lv_weak h fun q hq => ?_
  obtain ⟨k, h1, h2⟩ := (lvp_mem _ _ _).mp hq
  have hk : q.1 = k := by omega
  by_cases e0 : i + 1 = k
  · subst e0
    by_cases hl : i + 1 < (lv.set i (some v)).length
    · rw [List.getElem?_set_self hl] at h1
      simp at h1
    · rw [List.getElem?_eq_none (by rw [List.length_set]; omega)] at h1
      simp at h1
  rw [List.getElem?_set_ne e0] at h1
  by_cases e : i = k
  · subst e
    have hl : i < lv.length := by
      have := (List.getElem?_eq_some_iff.mp h1).1
      simpa using this
    rw [List.getElem?_set_self hl] at h1
    have : v = q.2 := by simpa using h1
    rw [List.mem_cons]
    left
    exact Prod.ext hk this.symm
  · rw [List.getElem?_set_ne e] at h1
    rw [List.mem_cons]
    right
    refine List.mem_filter.mpr ⟨(lvp_mem _ _ _).mpr ⟨k, h1, h2⟩, ?_⟩
    have e1 : (q.1 == i) = false := by rw [hk]; simp; omega
    have e3 : (q.1 == i + 1) = false := by rw [hk]; simp; omega
    have e2 : (q.1 + 1 == i && q.2.category == 2) = false := by
      cases i with
      | zero => simp
      | succ i =>
        by_cases hi : k = i
        · subst hi
          simp only [lvok, h1] at hok
          simp only [bne_iff_ne, ne_eq] at hok
          simp [hok]
        · have : ¬ (q.1 + 1 = i + 1) := by omega
          simp; omega
    rw [e1, e2, e3]; rfl
end
section
/-! the walk over pictures: W, whatever heap holds the picture -/
def CtQ (g : Ge) (r : Option Value) (N : Nat) (f : Pic) : Array Value → State → Outcome → State → Prop := fun _ st oc t => oc = .returned r ∧ HP g N f t.heap ∧ ∀ q : Nat, q < g.2.2 → t.heap[q]? = st.heap[q]?
def rmD (d mc ms : Nat) : Room := { frames := d, cells := mc, slots := ms, locals := 35 * d }
/-- a method's contract: from the picture f of N cells with the arguments As it answers r, with the picture f' of N' cells -/
def Ct (l : Launch) (g : Ge) (y : MethodName) (w : Cond) (d : Nat) (As : List Value) (N : Nat) (f : Pic) (r : Option Value) (N' : Nat) (f' : Pic) (mc ms : Nat) : Prop :=
  Met l y (w :: gT) (rmD d mc ms) (va_Pc As (fun U => U.heap.size = g.2.2 + N ∧ HP g N f U.heap ∧ KK g U)) (CtQ g r N' f') mc ms (gA g)
/-- the same over a block: the cells M from o on, become M' -/
def Cb (l : Launch) (g : Ge) (y : MethodName) (w : Cond) (d : Nat) (As : List Value) (N o : Nat) (M : List va_E) (r : Option Value) (M' : List va_E) : Prop :=
  ∀ f : Pic, BB g N o M.length → Ct l g y w d As N (ovr f o M) r N (ovr f o M') 0 0
/-- the same without any cell -/
def Cs (l : Launch) (g : Ge) (y : MethodName) (w : Cond) (d : Nat) (As : List Value) (r : Option Value) : Prop :=
  ∀ (N : Nat) (f : Pic), Ct l g y w d As N f r N f 0 0
def Cx (p : Program) (args : Array Value) (s : State) (m : MethodId) (meth : Method) (c : Code) (g : Ge) (cc : ByteArray) (nL : Nat) (own : String) (rt : Option FieldType) (N0 : Nat) : Prop :=
  p.tables.exec = Jvm.exec ∧ c.code = cc ∧ c.maxLocals = nL ∧ s.vm.findClass own = some m.cls ∧ (∀ w ∈ gT, w.before args s = true) ∧ meth.locks = false ∧ meth.sig.returnType = rt ∧ KK g s ∧ s.heap.size = g.2.2 + N0
def V (p : Program) (l : Launch) (e : Env) (R : Room) (s : State) (m : MethodId) (args : Array Value) (below : List Frame) (meth : Method) (c : Code) (Q : State → Prop) (g : Ge) (nL cs ss N : Nat) (f : Pic) (pc : Nat) (lv : List (Option Value)) (st : List Value) : Prop :=
  ∀ (H : Heap) (locs : List Loc) (ls : Array Slot), HP g N f H → va_S (gA g) s.heap H locs → lv_has ls nL (lvp 0 lv) → W p l e R s m args below meth c H locs cs ss Q (F0 m pc ls st)
section V1
variable {p : Program} {l : Launch} {e : Env} {R : Room} {s : State} {m : MethodId} {args : Array Value} {below : List Frame} {meth : Method} {c : Code} {Q : State → Prop}
variable {g : Ge} {cc : ByteArray} {nL : Nat} {own : String} {rt : Option FieldType} {N0 cs ss N : Nat} {f : Pic} {pc : Nat} {lv : List (Option Value)} {st : List Value}
theorem Cx.hA (X : Cx p args s m meth c g cc nL own rt N0) : ∀ q, s.heap.size ≤ q → gA g q := fun q h => Nat.le_trans (by rw [X.2.2.2.2.2.2.2.2]; exact Nat.le_add_right _ _) h
theorem Cx.wd (X : Cx p args s m meth c g cc nL own rt N0) {w : Cond} (h : w ∈ gT) : w.before args s = true := X.2.2.2.2.1 w h
theorem Cx.kk (X : Cx p args s m meth c g cc nL own rt N0) : va_K g.1 vwCl (tyG g) s := X.2.2.2.2.2.2.2.1.1
theorem V.cast {f' : Pic} {lv' : List (Option Value)} {st' : List Value} (k : V p l e R s m args below meth c Q g nL cs ss N f' pc lv' st') (e1 : lv = lv' := by rfl) (e2 : st = st' := by rfl) (e3 : f = f' := by rfl) : V p l e R s m args below meth c Q g nL cs ss N f pc lv st := by
  subst e1; subst e2; subst e3; exact k

theorem v_iconst (X : Cx p args s m meth c g cc nL own rt N0) {n : Int} {v : Int32} (d : decode cc pc = .ok (.iconst n, 1)) (hv : Int32.ofInt n = v) (k : V p l e R s m args below meth c Q g nL cs ss N f (pc + 1) lv (.int v :: st)) : V p l e R s m args below meth c Q g nL cs ss N f pc lv (st) :=
  fun H locs ls hP hS hl => lv_iconst X.1 X.2.1 d hv (k H locs ls hP hS hl)
theorem v_bipush (X : Cx p args s m meth c g cc nL own rt N0) {n : Int} {v : Int32} (d : decode cc pc = .ok (.bipush n, 2)) (hv : (Int8.ofInt n).toInt32 = v) (k : V p l e R s m args below meth c Q g nL cs ss N f (pc + 2) lv (.int v :: st)) : V p l e R s m args below meth c Q g nL cs ss N f pc lv (st) :=
  fun H locs ls hP hS hl => lv_bipush X.1 X.2.1 d hv (k H locs ls hP hS hl)
theorem v_sipush (X : Cx p args s m meth c g cc nL own rt N0) {n : Int} {v : Int32} (d : decode cc pc = .ok (.sipush n, 3)) (hv : (Int16.ofInt n).toInt32 = v) (k : V p l e R s m args below meth c Q g nL cs ss N f (pc + 3) lv (.int v :: st)) : V p l e R s m args below meth c Q g nL cs ss N f pc lv (st) :=
  fun H locs ls hP hS hl => lv_sipush X.1 X.2.1 d hv (k H locs ls hP hS hl)
theorem v_lconst (X : Cx p args s m meth c g cc nL own rt N0) {n : Fin 2} {v : Int64} (d : decode cc pc = .ok (.lconst n, 1)) (hv : Int64.ofNat (n : Nat) = v) (k : V p l e R s m args below meth c Q g nL cs ss N f (pc + 1) lv (.long v :: st)) : V p l e R s m args below meth c Q g nL cs ss N f pc lv (st) :=
  fun H locs ls hP hS hl => lv_lconst X.1 X.2.1 d hv (k H locs ls hP hS hl)
theorem v_ldc2 (X : Cx p args s m meth c g cc nL own rt N0) {idx : Nat} {v : Int64} (d : decode cc pc = .ok (.ldc2_w idx, 3)) (hw : Cond.constantLong own idx v ∈ gT) (k : V p l e R s m args below meth c Q g nL cs ss N f (pc + 3) lv (.long v :: st)) : V p l e R s m args below meth c Q g nL cs ss N f pc lv (st) :=
  fun H locs ls hP hS hl => lv_ldc2 X.1 X.2.1 X.2.2.2.1 (X.wd hw) d (k H locs ls hP hS hl)
theorem v_iload_n (X : Cx p args s m meth c g cc nL own rt N0) {k4 : Fin 4} {i : Nat} {x : Int32} (d : decode cc pc = .ok (.iload_n k4, 1)) (hi : (k4 : Nat) = i) (hx : lv[i]? = some (some (.int x))) (k : V p l e R s m args below meth c Q g nL cs ss N f (pc + 1) lv (.int x :: st)) : V p l e R s m args below meth c Q g nL cs ss N f pc lv (st) :=
  fun H locs ls hP hS hl => lv_iload_n X.1 X.2.1 d hi (lvp_at hl hx) (k H locs ls hP hS hl)
theorem v_iload (X : Cx p args s m meth c g cc nL own rt N0) {i : Nat} {x : Int32} (d : decode cc pc = .ok (.iload i, 2)) (hx : lv[i]? = some (some (.int x))) (k : V p l e R s m args below meth c Q g nL cs ss N f (pc + 2) lv (.int x :: st)) : V p l e R s m args below meth c Q g nL cs ss N f pc lv (st) :=
  fun H locs ls hP hS hl => lv_iload X.1 X.2.1 d (lvp_at hl hx) (k H locs ls hP hS hl)
theorem v_lload_n (X : Cx p args s m meth c g cc nL own rt N0) {k4 : Fin 4} {i : Nat} {x : Int64} (d : decode cc pc = .ok (.lload_n k4, 1)) (hi : (k4 : Nat) = i) (hx : lv[i]? = some (some (.long x))) (k : V p l e R s m args below meth c Q g nL cs ss N f (pc + 1) lv (.long x :: st)) : V p l e R s m args below meth c Q g nL cs ss N f pc lv (st) :=
  fun H locs ls hP hS hl => lv_lload_n X.1 X.2.1 d hi (lvp_at hl hx) (k H locs ls hP hS hl)
theorem v_lload (X : Cx p args s m meth c g cc nL own rt N0) {i : Nat} {x : Int64} (d : decode cc pc = .ok (.lload i, 2)) (hx : lv[i]? = some (some (.long x))) (k : V p l e R s m args below meth c Q g nL cs ss N f (pc + 2) lv (.long x :: st)) : V p l e R s m args below meth c Q g nL cs ss N f pc lv (st) :=
  fun H locs ls hP hS hl => lv_lload X.1 X.2.1 d (lvp_at hl hx) (k H locs ls hP hS hl)
theorem v_aload_n (X : Cx p args s m meth c g cc nL own rt N0) {k4 : Fin 4} {i : Nat} {x : Nat} (d : decode cc pc = .ok (.aload_n k4, 1)) (hi : (k4 : Nat) = i) (hx : lv[i]? = some (some (.ref x))) (k : V p l e R s m args below meth c Q g nL cs ss N f (pc + 1) lv (.ref x :: st)) : V p l e R s m args below meth c Q g nL cs ss N f pc lv (st) :=
  fun H locs ls hP hS hl => lv_aload_n X.1 X.2.1 d hi (lvp_at hl hx) (k H locs ls hP hS hl)
theorem v_aload (X : Cx p args s m meth c g cc nL own rt N0) {i : Nat} {x : Nat} (d : decode cc pc = .ok (.aload i, 2)) (hx : lv[i]? = some (some (.ref x))) (k : V p l e R s m args below meth c Q g nL cs ss N f (pc + 2) lv (.ref x :: st)) : V p l e R s m args below meth c Q g nL cs ss N f pc lv (st) :=
  fun H locs ls hP hS hl => lv_aload X.1 X.2.1 d (lvp_at hl hx) (k H locs ls hP hS hl)
theorem v_istore_n (X : Cx p args s m meth c g cc nL own rt N0) {k4 : Fin 4} {i : Nat} {x : Int32} (d : decode cc pc = .ok (.istore_n k4, 1)) (hi : (k4 : Nat) = i) (hn : i < nL) (ho : lvok lv i = true) (k : V p l e R s m args below meth c Q g nL cs ss N f (pc + 1) (lv.set i (some (.int x))) st) : V p l e R s m args below meth c Q g nL cs ss N f pc lv (.int x :: st) :=
  fun H locs ls hP hS hl => lv_istore_n X.1 X.2.1 d hi hl hn rfl (fun ls' hl' => k H locs ls' hP hS (lvp_set1 ho hl'))
theorem v_istore (X : Cx p args s m meth c g cc nL own rt N0) {i : Nat} {x : Int32} (d : decode cc pc = .ok (.istore i, 2)) (hn : i < nL) (ho : lvok lv i = true) (k : V p l e R s m args below meth c Q g nL cs ss N f (pc + 2) (lv.set i (some (.int x))) st) : V p l e R s m args below meth c Q g nL cs ss N f pc lv (.int x :: st) :=
  fun H locs ls hP hS hl => lv_istore X.1 X.2.1 d hl hn rfl (fun ls' hl' => k H locs ls' hP hS (lvp_set1 ho hl'))
theorem v_lstore_n (X : Cx p args s m meth c g cc nL own rt N0) {k4 : Fin 4} {i : Nat} {x : Int64} (d : decode cc pc = .ok (.lstore_n k4, 1)) (hi : (k4 : Nat) = i) (hn : i + 1 < nL) (ho : lvok lv i = true) (k : V p l e R s m args below meth c Q g nL cs ss N f (pc + 1) ((lv.set i (some (.long x))).set (i + 1) none) st) : V p l e R s m args below meth c Q g nL cs ss N f pc lv (.long x :: st) :=
  fun H locs ls hP hS hl => lv_lstore_n X.1 X.2.1 d hi hl hn rfl (fun ls' hl' => k H locs ls' hP hS (lvp_set2 ho hl'))
theorem v_lstore (X : Cx p args s m meth c g cc nL own rt N0) {i : Nat} {x : Int64} (d : decode cc pc = .ok (.lstore i, 2)) (hn : i + 1 < nL) (ho : lvok lv i = true) (k : V p l e R s m args below meth c Q g nL cs ss N f (pc + 2) ((lv.set i (some (.long x))).set (i + 1) none) st) : V p l e R s m args below meth c Q g nL cs ss N f pc lv (.long x :: st) :=
  fun H locs ls hP hS hl => lv_lstore X.1 X.2.1 d hl hn rfl (fun ls' hl' => k H locs ls' hP hS (lvp_set2 ho hl'))
theorem v_astore_n (X : Cx p args s m meth c g cc nL own rt N0) {k4 : Fin 4} {i : Nat} {x : Nat} (d : decode cc pc = .ok (.astore_n k4, 1)) (hi : (k4 : Nat) = i) (hn : i < nL) (ho : lvok lv i = true) (k : V p l e R s m args below meth c Q g nL cs ss N f (pc + 1) (lv.set i (some (.ref x))) st) : V p l e R s m args below meth c Q g nL cs ss N f pc lv (.ref x :: st) :=
  fun H locs ls hP hS hl => lv_astore_n X.1 X.2.1 d hi hl hn rfl (fun ls' hl' => k H locs ls' hP hS (lvp_set1 ho hl'))
theorem v_astore (X : Cx p args s m meth c g cc nL own rt N0) {i : Nat} {x : Nat} (d : decode cc pc = .ok (.astore i, 2)) (hn : i < nL) (ho : lvok lv i = true) (k : V p l e R s m args below meth c Q g nL cs ss N f (pc + 2) (lv.set i (some (.ref x))) st) : V p l e R s m args below meth c Q g nL cs ss N f pc lv (.ref x :: st) :=
  fun H locs ls hP hS hl => lv_astore X.1 X.2.1 d hl hn rfl (fun ls' hl' => k H locs ls' hP hS (lvp_set1 ho hl'))
theorem v_iinc (X : Cx p args s m meth c g cc nL own rt N0) {i : Nat} {n : Int} {x v : Int32} (d : decode cc pc = .ok (.iinc i n, 3)) (hx : lv[i]? = some (some (.int x))) (hv : x + Int32.ofInt n = v) (hn : i < nL) (ho : lvok lv i = true) (k : V p l e R s m args below meth c Q g nL cs ss N f (pc + 3) (lv.set i (some (.int v))) st) : V p l e R s m args below meth c Q g nL cs ss N f pc lv st := by
  intro H locs ls hP hS hl
  obtain ⟨j, hj⟩ : ∃ j, (lvp 0 lv)[j]? = some (i, Value.int x) := List.getElem?_of_mem ((lvp_mem lv 0 (i, Value.int x)).mpr ⟨i, hx, by simp⟩)
  exact lv_iinc X.1 X.2.1 d hl hj hv hn rfl (fun ls' hl' => k H locs ls' hP hS (lvp_set1 ho hl'))
theorem v_iadd (X : Cx p args s m meth c g cc nL own rt N0) {x y : Int32} (d : decode cc pc = .ok (.iadd, 1)) (k : V p l e R s m args below meth c Q g nL cs ss N f (pc + 1) lv (.int (x + y) :: st)) : V p l e R s m args below meth c Q g nL cs ss N f pc lv (.int y :: .int x :: st) :=
  fun H locs ls hP hS hl => lv_iadd X.1 X.2.1 d (k H locs ls hP hS hl)
theorem v_isub (X : Cx p args s m meth c g cc nL own rt N0) {x y : Int32} (d : decode cc pc = .ok (.isub, 1)) (k : V p l e R s m args below meth c Q g nL cs ss N f (pc + 1) lv (.int (x - y) :: st)) : V p l e R s m args below meth c Q g nL cs ss N f pc lv (.int y :: .int x :: st) :=
  fun H locs ls hP hS hl => lv_isub X.1 X.2.1 d (k H locs ls hP hS hl)
theorem v_imul (X : Cx p args s m meth c g cc nL own rt N0) {x y : Int32} (d : decode cc pc = .ok (.imul, 1)) (k : V p l e R s m args below meth c Q g nL cs ss N f (pc + 1) lv (.int (x * y) :: st)) : V p l e R s m args below meth c Q g nL cs ss N f pc lv (.int y :: .int x :: st) :=
  fun H locs ls hP hS hl => lv_imul X.1 X.2.1 d (k H locs ls hP hS hl)
theorem v_iand (X : Cx p args s m meth c g cc nL own rt N0) {x y : Int32} (d : decode cc pc = .ok (.iand, 1)) (k : V p l e R s m args below meth c Q g nL cs ss N f (pc + 1) lv (.int (x &&& y) :: st)) : V p l e R s m args below meth c Q g nL cs ss N f pc lv (.int y :: .int x :: st) :=
  fun H locs ls hP hS hl => lv_iand X.1 X.2.1 d (k H locs ls hP hS hl)
theorem v_ior (X : Cx p args s m meth c g cc nL own rt N0) {x y : Int32} (d : decode cc pc = .ok (.ior, 1)) (k : V p l e R s m args below meth c Q g nL cs ss N f (pc + 1) lv (.int (x ||| y) :: st)) : V p l e R s m args below meth c Q g nL cs ss N f pc lv (.int y :: .int x :: st) :=
  fun H locs ls hP hS hl => lv_ior X.1 X.2.1 d (k H locs ls hP hS hl)
theorem v_ixor (X : Cx p args s m meth c g cc nL own rt N0) {x y : Int32} (d : decode cc pc = .ok (.ixor, 1)) (k : V p l e R s m args below meth c Q g nL cs ss N f (pc + 1) lv (.int (x ^^^ y) :: st)) : V p l e R s m args below meth c Q g nL cs ss N f pc lv (.int y :: .int x :: st) :=
  fun H locs ls hP hS hl => lv_ixor X.1 X.2.1 d (k H locs ls hP hS hl)
theorem v_irem (X : Cx p args s m meth c g cc nL own rt N0) {x y : Int32} (d : decode cc pc = .ok (.irem, 1)) (hne : ¬ y = 0) (k : V p l e R s m args below meth c Q g nL cs ss N f (pc + 1) lv (.int (x - x / y * y) :: st)) : V p l e R s m args below meth c Q g nL cs ss N f pc lv (.int y :: .int x :: st) :=
  fun H locs ls hP hS hl => lv_irem X.1 X.2.1 d hne (k H locs ls hP hS hl)
theorem v_ineg (X : Cx p args s m meth c g cc nL own rt N0) {x : Int32} (d : decode cc pc = .ok (.ineg, 1)) (k : V p l e R s m args below meth c Q g nL cs ss N f (pc + 1) lv (.int (-x) :: st)) : V p l e R s m args below meth c Q g nL cs ss N f pc lv (.int x :: st) :=
  fun H locs ls hP hS hl => lv_ineg X.1 X.2.1 d (k H locs ls hP hS hl)
theorem v_ishl (X : Cx p args s m meth c g cc nL own rt N0) {x y : Int32} (d : decode cc pc = .ok (.ishl, 1)) (k : V p l e R s m args below meth c Q g nL cs ss N f (pc + 1) lv (.int (x <<< (y &&& 31)) :: st)) : V p l e R s m args below meth c Q g nL cs ss N f pc lv (.int y :: .int x :: st) :=
  fun H locs ls hP hS hl => lv_ishl X.1 X.2.1 d (k H locs ls hP hS hl)
theorem v_ishr (X : Cx p args s m meth c g cc nL own rt N0) {x y : Int32} (d : decode cc pc = .ok (.ishr, 1)) (k : V p l e R s m args below meth c Q g nL cs ss N f (pc + 1) lv (.int (x >>> (y &&& 31)) :: st)) : V p l e R s m args below meth c Q g nL cs ss N f pc lv (.int y :: .int x :: st) :=
  fun H locs ls hP hS hl => lv_ishr X.1 X.2.1 d (k H locs ls hP hS hl)
theorem v_ladd (X : Cx p args s m meth c g cc nL own rt N0) {x y : Int64} (d : decode cc pc = .ok (.ladd, 1)) (k : V p l e R s m args below meth c Q g nL cs ss N f (pc + 1) lv (.long (x + y) :: st)) : V p l e R s m args below meth c Q g nL cs ss N f pc lv (.long y :: .long x :: st) :=
  fun H locs ls hP hS hl => lv_ladd X.1 X.2.1 d (k H locs ls hP hS hl)
theorem v_lmul (X : Cx p args s m meth c g cc nL own rt N0) {x y : Int64} (d : decode cc pc = .ok (.lmul, 1)) (k : V p l e R s m args below meth c Q g nL cs ss N f (pc + 1) lv (.long (x * y) :: st)) : V p l e R s m args below meth c Q g nL cs ss N f pc lv (.long y :: .long x :: st) :=
  fun H locs ls hP hS hl => lv_lmul X.1 X.2.1 d (k H locs ls hP hS hl)
theorem v_lsub (X : Cx p args s m meth c g cc nL own rt N0) {x y : Int64} (d : decode cc pc = .ok (.lsub, 1)) (k : V p l e R s m args below meth c Q g nL cs ss N f (pc + 1) lv (.long (x - y) :: st)) : V p l e R s m args below meth c Q g nL cs ss N f pc lv (.long y :: .long x :: st) :=
  fun H locs ls hP hS hl => lv_lsub X.1 X.2.1 d (k H locs ls hP hS hl)
theorem v_i2l (X : Cx p args s m meth c g cc nL own rt N0) {x : Int32} (d : decode cc pc = .ok (.i2l, 1)) (k : V p l e R s m args below meth c Q g nL cs ss N f (pc + 1) lv (.long x.toInt64 :: st)) : V p l e R s m args below meth c Q g nL cs ss N f pc lv (.int x :: st) :=
  fun H locs ls hP hS hl => lv_i2l X.1 X.2.1 d rfl (k H locs ls hP hS hl)
theorem v_i2c (X : Cx p args s m meth c g cc nL own rt N0) {x v : Int32} (d : decode cc pc = .ok (.i2c, 1)) (hv : (x.toUInt32 % 65536).toInt32 = v) (k : V p l e R s m args below meth c Q g nL cs ss N f (pc + 1) lv (.int v :: st)) : V p l e R s m args below meth c Q g nL cs ss N f pc lv (.int x :: st) :=
  fun H locs ls hP hS hl => lv_i2c X.1 X.2.1 d hv (k H locs ls hP hS hl)
theorem v_lcmp (X : Cx p args s m meth c g cc nL own rt N0) {x y : Int64} (d : decode cc pc = .ok (.lcmp, 1)) (k : V p l e R s m args below meth c Q g nL cs ss N f (pc + 1) lv (.int (lg_cmp x y) :: st)) : V p l e R s m args below meth c Q g nL cs ss N f pc lv (.long y :: .long x :: st) :=
  fun H locs ls hP hS hl => W.lcmp X.1 X.2.1 d (k H locs ls hP hS hl)
theorem v_dup (X : Cx p args s m meth c g cc nL own rt N0) {a : Value} (d : decode cc pc = .ok (.dup, 1)) (ha : a.category = 1) (k : V p l e R s m args below meth c Q g nL cs ss N f (pc + 1) lv (a :: a :: st)) : V p l e R s m args below meth c Q g nL cs ss N f pc lv (a :: st) :=
  fun H locs ls hP hS hl => lv_dup X.1 X.2.1 d ha (k H locs ls hP hS hl)
theorem v_pop (X : Cx p args s m meth c g cc nL own rt N0) {a : Value} (d : decode cc pc = .ok (.pop, 1)) (ha : a.category = 1) (k : V p l e R s m args below meth c Q g nL cs ss N f (pc + 1) lv (st)) : V p l e R s m args below meth c Q g nL cs ss N f pc lv (a :: st) :=
  fun H locs ls hP hS hl => lv_pop X.1 X.2.1 d ha (k H locs ls hP hS hl)
theorem v_dup2 (X : Cx p args s m meth c g cc nL own rt N0) {a b : Value} (d : decode cc pc = .ok (.dup2, 1)) (ha : a.category = 1) (hb : b.category = 1) (k : V p l e R s m args below meth c Q g nL cs ss N f (pc + 1) lv (a :: b :: a :: b :: st)) : V p l e R s m args below meth c Q g nL cs ss N f pc lv (a :: b :: st) :=
  fun H locs ls hP hS hl => lv_dup2_11 X.1 X.2.1 d ha hb (k H locs ls hP hS hl)
theorem v_dup_x1 (X : Cx p args s m meth c g cc nL own rt N0) {a b : Value} (d : decode cc pc = .ok (.dup_x1, 1)) (ha : a.category = 1) (hb : b.category = 1) (k : V p l e R s m args below meth c Q g nL cs ss N f (pc + 1) lv (a :: b :: a :: st)) : V p l e R s m args below meth c Q g nL cs ss N f pc lv (a :: b :: st) :=
  fun H locs ls hP hS hl => lv_dup_x1 X.1 X.2.1 d ha hb (k H locs ls hP hS hl)
theorem v_goto (X : Cx p args s m meth c g cc nL own rt N0) {off : Int} {tgt : Nat} (d : decode cc pc = .ok (.goto off, 3)) (ht : (pc : Int) + off = (tgt : Int)) (k : V p l e R s m args below meth c Q g nL cs ss N f tgt lv st) : V p l e R s m args below meth c Q g nL cs ss N f pc lv st :=
  fun H locs ls hP hS hl => lv_goto X.1 X.2.1 d ht (k H locs ls hP hS hl)
theorem v_if_eq (X : Cx p args s m meth c g cc nL own rt N0) {x : Int32} {off : Int} {tgt : Nat} (d : decode cc pc = .ok (.ifCond .eq off, 3)) (ht : (pc : Int) + off = (tgt : Int)) (kt : x = 0 → V p l e R s m args below meth c Q g nL cs ss N f tgt lv st) (kf : ¬ x = 0 → V p l e R s m args below meth c Q g nL cs ss N f (pc + 3) lv st) : V p l e R s m args below meth c Q g nL cs ss N f pc lv (.int x :: st) :=
  fun H locs ls hP hS hl => lv_if_eq X.1 X.2.1 d ht (fun h => kt (by first | exact h | simpa using h) H locs ls hP hS hl) (fun h => kf (by first | exact h | exact Int32.not_lt.mp h | exact Int32.not_le.mp h | simpa using h) H locs ls hP hS hl)
theorem v_icmp_eq (X : Cx p args s m meth c g cc nL own rt N0) {x y : Int32} {off : Int} {tgt : Nat} (d : decode cc pc = .ok (.if_icmp .eq off, 3)) (ht : (pc : Int) + off = (tgt : Int)) (kt : x = y → V p l e R s m args below meth c Q g nL cs ss N f tgt lv st) (kf : ¬ x = y → V p l e R s m args below meth c Q g nL cs ss N f (pc + 3) lv st) : V p l e R s m args below meth c Q g nL cs ss N f pc lv (.int y :: .int x :: st) :=
  fun H locs ls hP hS hl => lv_icmp_eq X.1 X.2.1 d ht (fun h => kt (by first | exact h | simpa using h) H locs ls hP hS hl) (fun h => kf (by first | exact h | exact Int32.not_lt.mp h | exact Int32.not_le.mp h | simpa using h) H locs ls hP hS hl)
theorem v_if_ne (X : Cx p args s m meth c g cc nL own rt N0) {x : Int32} {off : Int} {tgt : Nat} (d : decode cc pc = .ok (.ifCond .ne off, 3)) (ht : (pc : Int) + off = (tgt : Int)) (kt : ¬ x = 0 → V p l e R s m args below meth c Q g nL cs ss N f tgt lv st) (kf : x = 0 → V p l e R s m args below meth c Q g nL cs ss N f (pc + 3) lv st) : V p l e R s m args below meth c Q g nL cs ss N f pc lv (.int x :: st) :=
  fun H locs ls hP hS hl => lv_if_ne X.1 X.2.1 d ht (fun h => kt (by first | exact h | simpa using h) H locs ls hP hS hl) (fun h => kf (by first | exact h | exact Int32.not_lt.mp h | exact Int32.not_le.mp h | simpa using h) H locs ls hP hS hl)
theorem v_icmp_ne (X : Cx p args s m meth c g cc nL own rt N0) {x y : Int32} {off : Int} {tgt : Nat} (d : decode cc pc = .ok (.if_icmp .ne off, 3)) (ht : (pc : Int) + off = (tgt : Int)) (kt : ¬ x = y → V p l e R s m args below meth c Q g nL cs ss N f tgt lv st) (kf : x = y → V p l e R s m args below meth c Q g nL cs ss N f (pc + 3) lv st) : V p l e R s m args below meth c Q g nL cs ss N f pc lv (.int y :: .int x :: st) :=
  fun H locs ls hP hS hl => lv_icmp_ne X.1 X.2.1 d ht (fun h => kt (by first | exact h | simpa using h) H locs ls hP hS hl) (fun h => kf (by first | exact h | exact Int32.not_lt.mp h | exact Int32.not_le.mp h | simpa using h) H locs ls hP hS hl)
theorem v_if_lt (X : Cx p args s m meth c g cc nL own rt N0) {x : Int32} {off : Int} {tgt : Nat} (d : decode cc pc = .ok (.ifCond .lt off, 3)) (ht : (pc : Int) + off = (tgt : Int)) (kt : x < 0 → V p l e R s m args below meth c Q g nL cs ss N f tgt lv st) (kf : 0 ≤ x → V p l e R s m args below meth c Q g nL cs ss N f (pc + 3) lv st) : V p l e R s m args below meth c Q g nL cs ss N f pc lv (.int x :: st) :=
  fun H locs ls hP hS hl => lv_if_lt X.1 X.2.1 d ht (fun h => kt (by first | exact h | simpa using h) H locs ls hP hS hl) (fun h => kf (by first | exact h | exact Int32.not_lt.mp h | exact Int32.not_le.mp h | simpa using h) H locs ls hP hS hl)
theorem v_icmp_lt (X : Cx p args s m meth c g cc nL own rt N0) {x y : Int32} {off : Int} {tgt : Nat} (d : decode cc pc = .ok (.if_icmp .lt off, 3)) (ht : (pc : Int) + off = (tgt : Int)) (kt : x < y → V p l e R s m args below meth c Q g nL cs ss N f tgt lv st) (kf : y ≤ x → V p l e R s m args below meth c Q g nL cs ss N f (pc + 3) lv st) : V p l e R s m args below meth c Q g nL cs ss N f pc lv (.int y :: .int x :: st) :=
  fun H locs ls hP hS hl => lv_icmp_lt X.1 X.2.1 d ht (fun h => kt (by first | exact h | simpa using h) H locs ls hP hS hl) (fun h => kf (by first | exact h | exact Int32.not_lt.mp h | exact Int32.not_le.mp h | simpa using h) H locs ls hP hS hl)
theorem v_if_ge (X : Cx p args s m meth c g cc nL own rt N0) {x : Int32} {off : Int} {tgt : Nat} (d : decode cc pc = .ok (.ifCond .ge off, 3)) (ht : (pc : Int) + off = (tgt : Int)) (kt : 0 ≤ x → V p l e R s m args below meth c Q g nL cs ss N f tgt lv st) (kf : x < 0 → V p l e R s m args below meth c Q g nL cs ss N f (pc + 3) lv st) : V p l e R s m args below meth c Q g nL cs ss N f pc lv (.int x :: st) :=
  fun H locs ls hP hS hl => lv_if_ge X.1 X.2.1 d ht (fun h => kt (by first | exact h | simpa using h) H locs ls hP hS hl) (fun h => kf (by first | exact h | exact Int32.not_lt.mp h | exact Int32.not_le.mp h | simpa using h) H locs ls hP hS hl)
theorem v_icmp_ge (X : Cx p args s m meth c g cc nL own rt N0) {x y : Int32} {off : Int} {tgt : Nat} (d : decode cc pc = .ok (.if_icmp .ge off, 3)) (ht : (pc : Int) + off = (tgt : Int)) (kt : y ≤ x → V p l e R s m args below meth c Q g nL cs ss N f tgt lv st) (kf : x < y → V p l e R s m args below meth c Q g nL cs ss N f (pc + 3) lv st) : V p l e R s m args below meth c Q g nL cs ss N f pc lv (.int y :: .int x :: st) :=
  fun H locs ls hP hS hl => lv_icmp_ge X.1 X.2.1 d ht (fun h => kt (by first | exact h | simpa using h) H locs ls hP hS hl) (fun h => kf (by first | exact h | exact Int32.not_lt.mp h | exact Int32.not_le.mp h | simpa using h) H locs ls hP hS hl)
theorem v_if_gt (X : Cx p args s m meth c g cc nL own rt N0) {x : Int32} {off : Int} {tgt : Nat} (d : decode cc pc = .ok (.ifCond .gt off, 3)) (ht : (pc : Int) + off = (tgt : Int)) (kt : 0 < x → V p l e R s m args below meth c Q g nL cs ss N f tgt lv st) (kf : x ≤ 0 → V p l e R s m args below meth c Q g nL cs ss N f (pc + 3) lv st) : V p l e R s m args below meth c Q g nL cs ss N f pc lv (.int x :: st) :=
  fun H locs ls hP hS hl => lv_if_gt X.1 X.2.1 d ht (fun h => kt (by first | exact h | simpa using h) H locs ls hP hS hl) (fun h => kf (by first | exact h | exact Int32.not_lt.mp h | exact Int32.not_le.mp h | simpa using h) H locs ls hP hS hl)
theorem v_icmp_gt (X : Cx p args s m meth c g cc nL own rt N0) {x y : Int32} {off : Int} {tgt : Nat} (d : decode cc pc = .ok (.if_icmp .gt off, 3)) (ht : (pc : Int) + off = (tgt : Int)) (kt : y < x → V p l e R s m args below meth c Q g nL cs ss N f tgt lv st) (kf : x ≤ y → V p l e R s m args below meth c Q g nL cs ss N f (pc + 3) lv st) : V p l e R s m args below meth c Q g nL cs ss N f pc lv (.int y :: .int x :: st) :=
  fun H locs ls hP hS hl => lv_icmp_gt X.1 X.2.1 d ht (fun h => kt (by first | exact h | simpa using h) H locs ls hP hS hl) (fun h => kf (by first | exact h | exact Int32.not_lt.mp h | exact Int32.not_le.mp h | simpa using h) H locs ls hP hS hl)
theorem v_if_le (X : Cx p args s m meth c g cc nL own rt N0) {x : Int32} {off : Int} {tgt : Nat} (d : decode cc pc = .ok (.ifCond .le off, 3)) (ht : (pc : Int) + off = (tgt : Int)) (kt : x ≤ 0 → V p l e R s m args below meth c Q g nL cs ss N f tgt lv st) (kf : 0 < x → V p l e R s m args below meth c Q g nL cs ss N f (pc + 3) lv st) : V p l e R s m args below meth c Q g nL cs ss N f pc lv (.int x :: st) :=
  fun H locs ls hP hS hl => lv_if_le X.1 X.2.1 d ht (fun h => kt (by first | exact h | simpa using h) H locs ls hP hS hl) (fun h => kf (by first | exact h | exact Int32.not_lt.mp h | exact Int32.not_le.mp h | simpa using h) H locs ls hP hS hl)
theorem v_icmp_le (X : Cx p args s m meth c g cc nL own rt N0) {x y : Int32} {off : Int} {tgt : Nat} (d : decode cc pc = .ok (.if_icmp .le off, 3)) (ht : (pc : Int) + off = (tgt : Int)) (kt : x ≤ y → V p l e R s m args below meth c Q g nL cs ss N f tgt lv st) (kf : y < x → V p l e R s m args below meth c Q g nL cs ss N f (pc + 3) lv st) : V p l e R s m args below meth c Q g nL cs ss N f pc lv (.int y :: .int x :: st) :=
  fun H locs ls hP hS hl => lv_icmp_le X.1 X.2.1 d ht (fun h => kt (by first | exact h | simpa using h) H locs ls hP hS hl) (fun h => kf (by first | exact h | exact Int32.not_lt.mp h | exact Int32.not_le.mp h | simpa using h) H locs ls hP hS hl)
def bI (P : Prop) [Decidable P] : Int32 := if P then 1 else 0
theorem bI_t {P : Prop} [Decidable P] (h : P) : bI P = 1 := if_pos h
theorem bI_f {P : Prop} [Decidable P] (h : ¬ P) : bI P = 0 := if_neg h
theorem bI_0 {P : Prop} [Decidable P] : bI P = 0 ↔ ¬ P := by
  by_cases h : P
  · rw [bI_t h]; exact ⟨fun q => absurd q (by decide), fun q => absurd h q⟩
  · rw [bI_f h]; exact ⟨fun _ => h, fun _ => rfl⟩
theorem bI_n {P : Prop} [Decidable P] : ¬ bI P = 0 ↔ P := by rw [bI_0]; exact Decidable.not_not
theorem bI_c {P P' : Prop} [Decidable P] [Decidable P'] (h : P ↔ P') : bI P = bI P' := by
  by_cases q : P
  · rw [bI_t q, bI_t (h.mp q)]
  · rw [bI_f q, bI_f (fun z => q (h.mpr z))]
theorem nar_b {P : Prop} [Decidable P] : narrow .boolean (.int (bI P)) = .int (bI P) := by
  by_cases h : P
  · rw [bI_t h]; rfl
  · rw [bI_f h]; rfl
theorem v_if_eqB (X : Cx p args s m meth c g cc nL own rt N0) {P : Prop} [Decidable P] {off : Int} {tgt : Nat} (d : decode cc pc = .ok (.ifCond .eq off, 3)) (ht : (pc : Int) + off = (tgt : Int)) (kt : ¬ P → V p l e R s m args below meth c Q g nL cs ss N f tgt lv st) (kf : P → V p l e R s m args below meth c Q g nL cs ss N f (pc + 3) lv st) : V p l e R s m args below meth c Q g nL cs ss N f pc lv (.int (bI P) :: st) :=
  v_if_eq X d ht (fun h => kt (bI_0.mp h)) (fun h => kf (bI_n.mp h))
theorem v_if_neB (X : Cx p args s m meth c g cc nL own rt N0) {P : Prop} [Decidable P] {off : Int} {tgt : Nat} (d : decode cc pc = .ok (.ifCond .ne off, 3)) (ht : (pc : Int) + off = (tgt : Int)) (kt : P → V p l e R s m args below meth c Q g nL cs ss N f tgt lv st) (kf : ¬ P → V p l e R s m args below meth c Q g nL cs ss N f (pc + 3) lv st) : V p l e R s m args below meth c Q g nL cs ss N f pc lv (.int (bI P) :: st) :=
  v_if_ne X d ht (fun h => kt (bI_n.mp h)) (fun h => kf (bI_0.mp h))
theorem v_tabIn (X : Cx p args s m meth c g cc nL own rt N0) {dflt lo hi : Int} {offs : Array Int} {len : Nat} {x : Int32} {off : Int} {tgt : Nat} (d : decode cc pc = .ok (.tableswitch dflt lo hi offs, len)) (h1 : ¬ x.toInt < lo) (h2 : ¬ hi < x.toInt) (ho : offs[(x.toInt - lo).toNat]? = some off) (ht : (pc : Int) + off = (tgt : Int)) (k : V p l e R s m args below meth c Q g nL cs ss N f tgt lv st) : V p l e R s m args below meth c Q g nL cs ss N f pc lv (.int x :: st) :=
  fun H locs ls hP hS hl => lv_tableIn X.1 X.2.1 d h1 h2 ho ht (k H locs ls hP hS hl)
theorem v_tabOut (X : Cx p args s m meth c g cc nL own rt N0) {dflt lo hi : Int} {offs : Array Int} {len : Nat} {x : Int32} {tgt : Nat} (d : decode cc pc = .ok (.tableswitch dflt lo hi offs, len)) (h : x.toInt < lo ∨ hi < x.toInt) (ht : (pc : Int) + dflt = (tgt : Int)) (k : V p l e R s m args below meth c Q g nL cs ss N f tgt lv st) : V p l e R s m args below meth c Q g nL cs ss N f pc lv (.int x :: st) :=
  fun H locs ls hP hS hl => lv_tableOut X.1 X.2.1 d h ht (k H locs ls hP hS hl)
end V1
end
section
section V2
variable {p : Program} {l : Launch} {e : Env} {R : Room} {s : State} {m : MethodId} {args : Array Value} {below : List Frame} {meth : Method} {c : Code} {Q : State → Prop}
variable {g : Ge} {cc : ByteArray} {nL : Nat} {own : String} {rt : Option FieldType} {N0 cs ss N : Nat} {f : Pic} {pc : Nat} {lv : List (Option Value)} {st : List Value} {o nB : Nat} {L L' : List va_E}
def CF (ci : Nat) (C : String) (T : u_T) (n : Nat) (ty : Nat → FieldType) : Prop := vwCl[ci]? = some (C, T, n) ∧ (∀ w ∈ u_ws C T n, w ∈ gT) ∧ (∀ k, k < n → parseFieldDescriptor (T k).2.2.1 = some (ty k)) ∧ (∀ a, a < n → ∀ b, b < n → a ≠ b → (T a).2.1 ≠ (T b).2.1) ∧ (∀ k, k < n → (T k).1 = C)
theorem getE_lt {α : Type} {l : List α} {j : Nat} {x : α} (h : l[j]? = some x) : j < l.length := (List.getElem?_eq_some_iff.mp h).1
theorem HP_lo {H : Heap} (h0 : g.2.2 ≤ H.size) (h : HP g N f H) : g.2.2 + N ≤ H.size := by
  cases N with
  | zero => exact h0
  | succ n =>
    have h1 := (h n _ (wl_get (Nat.lt_succ_self n))).lt
    have h2 : g.2.2 + n < H.size := h1
    omega
theorem Cx.size (X : Cx p args s m meth c g cc nL own rt N0) (hz : N = N0 + cs) {T : State} {H : Heap} {locs : List Loc} (hT : T.heap = H) (hP : HP g N f H) (S : Stand p l e R s m args below meth c T locs cs ss) : H.size = g.2.2 + N := by
  have h1 := S.heapSize
  have h2 : s.heap.size ≤ T.heap.size := S.same.2.1
  have h3 := X.2.2.2.2.2.2.2.2
  rw [hT] at h1 h2
  have h4 := HP_lo (by omega) hP
  omega
theorem v_get (X : Cx p args s m meth c g cc nL own rt N0) {ci idx a : Nat} {C : String} {T : u_T} {n : Nat} {ty : Nat → FieldType} {fs : List Value} {v : Value} (cf : CF ci C T n ty) (k : Nat) (hk : k < n) (hl : Cond.fieldLink own idx C (T k).2.1 (T k).2.2.1 ∈ gT) (d : decode cc pc = .ok (.getfield idx, 3)) (ha : g.2.2 ≤ a ∧ a < g.2.2 + N) (hc : f a = .inr (ci, fs)) (hv : fs[k]? = some v) (kk : V p l e R s m args below meth c Q g nL cs ss N f (pc + 3) lv (v :: st)) : V p l e R s m args below meth c Q g nL cs ss N f pc lv (.ref a :: st) :=
  fun H locs ls hP hS hl' => va_get X.1 X.2.1 X.2.2.2.2.1 cf.2.1 X.2.2.2.1 X.kk hP (a - g.2.2) (wl_atE ha.1 ha.2 hc) cf.1 k hk (X.wd hl) (by rw [cf.2.2.2.2 k hk]; exact fun _ h => h) hv d (kk H locs ls hP hS hl')
theorem v_getB (X : Cx p args s m meth c g cc nL own rt N0) {ci idx : Nat} {C : String} {T : u_T} {n : Nat} {ty : Nat → FieldType} {fs : List Value} {v : Value} (hB : BB g N o nB) (cf : CF ci C T n ty) (k : Nat) (hk : k < n) (hl : Cond.fieldLink own idx C (T k).2.1 (T k).2.2.1 ∈ gT) (d : decode cc pc = .ok (.getfield idx, 3)) (j : Nat) (hjn : j < nB) (hj : L[j]? = some (.inr (ci, fs))) (hv : fs[k]? = some v) (kk : V p l e R s m args below meth c Q g nL cs ss N (ovr f o L) (pc + 3) lv (v :: st)) : V p l e R s m args below meth c Q g nL cs ss N (ovr f o L) pc lv (.ref (o + j) :: st) :=
  v_get X cf k hk hl d ⟨hB.lo, hB.hi hjn⟩ (ovr_at hj) hv kk
theorem v_put (X : Cx p args s m meth c g cc nL own rt N0) {ci idx a : Nat} {C : String} {T : u_T} {n : Nat} {ty : Nat → FieldType} {fs : List Value} {v : Value} (cf : CF ci C T n ty) (k : Nat) (hk : k < n) (hfin : (T k).2.2.2 = false) (hl : Cond.fieldLink own idx C (T k).2.1 (T k).2.2.1 ∈ gT) (d : decode cc pc = .ok (.putfield idx, 3)) (ha : g.2.2 ≤ a ∧ a < g.2.2 + N) (hc : f a = .inr (ci, fs)) (hn : narrow (ty k) v = v) (hfit : fits (ty k) v = true) (hlen : k < fs.length) (kk : V p l e R s m args below meth c Q g nL cs ss N (upP f a (.inr (ci, fs.set k v))) (pc + 3) lv st) : V p l e R s m args below meth c Q g nL cs ss N f pc lv (v :: .ref a :: st) := by
  intro H locs ls hP hS hl'
  refine va_put (D := g.1) X.1 X.2.1 X.2.2.2.2.1 cf.2.1 ty cf.2.2.1 cf.2.2.2.1 X.2.2.2.1 X.kk hP (wl_D g N f) hS (a - g.2.2) (wl_atE ha.1 ha.2 hc) cf.1 k hk (X.wd hl) (by rw [cf.2.2.2.2 k hk]; exact fun _ h => h) hfin (cf.2.2.1 k hk) hn hfit hlen d (fun H1 locs1 hP1 hD1 hS1 => ?_)
  rw [wl_set ha.1 ha.2] at hP1
  exact kk H1 locs1 ls hP1 hS1 hl'
theorem v_putB (X : Cx p args s m meth c g cc nL own rt N0) {ci idx : Nat} {C : String} {T : u_T} {n : Nat} {ty : Nat → FieldType} {fs : List Value} {v : Value} (hB : BB g N o nB) (cf : CF ci C T n ty) (k : Nat) (hk : k < n) (hfin : (T k).2.2.2 = false) (hl : Cond.fieldLink own idx C (T k).2.1 (T k).2.2.1 ∈ gT) (d : decode cc pc = .ok (.putfield idx, 3)) (j : Nat) (hjn : j < nB) (hj : L[j]? = some (.inr (ci, fs))) (hn : narrow (ty k) v = v) (hfit : fits (ty k) v = true) (hlen : k < fs.length) (hL : L.set j (.inr (ci, fs.set k v)) = L') (kk : V p l e R s m args below meth c Q g nL cs ss N (ovr f o L') (pc + 3) lv st) : V p l e R s m args below meth c Q g nL cs ss N (ovr f o L) pc lv (v :: .ref (o + j) :: st) := by
  refine v_put X cf k hk hfin hl d ⟨hB.lo, hB.hi hjn⟩ (ovr_at hj) hn hfit hlen ?_
  rw [ovr_up (getE_lt hj), hL]
  exact kk
theorem v_putF (X : Cx p args s m meth c g cc nL own rt N0) {ci idx a : Nat} {C : String} {T : u_T} {n : Nat} {ty : Nat → FieldType} {fs : List Value} {v : Value} (cf : CF ci C T n ty) (k : Nat) (hk : k < n) (hfin : (T k).2.2.2 = true) (hin : meth.name = "<init>") (hown : C = own) (hl : Cond.fieldLink own idx C (T k).2.1 (T k).2.2.1 ∈ gT) (d : decode cc pc = .ok (.putfield idx, 3)) (ha : g.2.2 ≤ a ∧ a < g.2.2 + N) (hc : f a = .inr (ci, fs)) (hn : narrow (ty k) v = v) (hfit : fits (ty k) v = true) (hlen : k < fs.length) (kk : V p l e R s m args below meth c Q g nL cs ss N (upP f a (.inr (ci, fs.set k v))) (pc + 3) lv st) : V p l e R s m args below meth c Q g nL cs ss N f pc lv (v :: .ref a :: st) := by
  intro H locs ls hP hS hl'
  refine va_putF (D := g.1) X.1 X.2.1 X.2.2.2.2.1 cf.2.1 ty cf.2.2.1 cf.2.2.2.1 X.2.2.2.1 X.kk hP (wl_D g N f) hS (a - g.2.2) (wl_atE ha.1 ha.2 hc) cf.1 k hk (X.wd hl) (by rw [cf.2.2.2.2 k hk]; exact fun _ h => h) hfin hin ((cf.2.2.2.2 k hk).trans hown) (cf.2.2.1 k hk) hn hfit hlen d (fun H1 locs1 hP1 hD1 hS1 => ?_)
  rw [wl_set ha.1 ha.2] at hP1
  exact kk H1 locs1 ls hP1 hS1 hl'
theorem v_putFB (X : Cx p args s m meth c g cc nL own rt N0) {ci idx : Nat} {C : String} {T : u_T} {n : Nat} {ty : Nat → FieldType} {fs : List Value} {v : Value} (hB : BB g N o nB) (cf : CF ci C T n ty) (k : Nat) (hk : k < n) (hfin : (T k).2.2.2 = true) (hin : meth.name = "<init>") (hown : C = own) (hl : Cond.fieldLink own idx C (T k).2.1 (T k).2.2.1 ∈ gT) (d : decode cc pc = .ok (.putfield idx, 3)) (j : Nat) (hjn : j < nB) (hj : L[j]? = some (.inr (ci, fs))) (hn : narrow (ty k) v = v) (hfit : fits (ty k) v = true) (hlen : k < fs.length) (hL : L.set j (.inr (ci, fs.set k v)) = L') (kk : V p l e R s m args below meth c Q g nL cs ss N (ovr f o L') (pc + 3) lv st) : V p l e R s m args below meth c Q g nL cs ss N (ovr f o L) pc lv (v :: .ref (o + j) :: st) := by
  refine v_putF X cf k hk hfin hin hown hl d ⟨hB.lo, hB.hi hjn⟩ (ovr_at hj) hn hfit hlen ?_
  rw [ovr_up (getE_lt hj), hL]
  exact kk
theorem nI_use {i : Int32} {k n : Nat} (hi : i = nI k) (hk : k < n) (hn : n < 2 ^ 31) : vp_in i n ∧ i.toNatClampNeg = k := by
  subst hi
  exact ⟨vp_in_nI hk hn, nI_clamp (Nat.lt_trans hk hn)⟩
theorem v_iald (X : Cx p args s m meth c g cc nL own rt N0) {a n k : Nat} {i : Int32} {row : Nat → Int32} (d : decode cc pc = .ok (.iaload, 1)) (ha : g.2.2 ≤ a ∧ a < g.2.2 + N) (hc : f a = .inl (g.2.1.1, n, .inl row)) (hi : i = nI k) (hk : k < n) (hn : n < 2 ^ 31) (kk : V p l e R s m args below meth c Q g nL cs ss N f (pc + 1) lv (.int (row k) :: st)) : V p l e R s m args below meth c Q g nL cs ss N f pc lv (.int i :: .ref a :: st) := by
  intro H locs ls hP hS hl'
  obtain ⟨h1, h2⟩ := nI_use hi hk hn
  refine va_iald X.1 X.2.1 X.kk hP (a - g.2.2) 0 (wl_atE ha.1 ha.2 hc) rfl h1 d ?_
  rw [h2]
  exact kk H locs ls hP hS hl'
theorem v_ialdB (X : Cx p args s m meth c g cc nL own rt N0) {n : Nat} {i : Int32} {row : Nat → Int32} (hB : BB g N o nB) (d : decode cc pc = .ok (.iaload, 1)) (j : Nat) (hjn : j < nB) (hj : L[j]? = some (.inl (g.2.1.1, n, .inl row))) (k : Nat) (hi : i = nI k) (hk : k < n) (hn : n < 2 ^ 31) (kk : V p l e R s m args below meth c Q g nL cs ss N (ovr f o L) (pc + 1) lv (.int (row k) :: st)) : V p l e R s m args below meth c Q g nL cs ss N (ovr f o L) pc lv (.int i :: .ref (o + j) :: st) :=
  v_iald X d ⟨hB.lo, hB.hi hjn⟩ (ovr_at hj) hi hk hn kk
theorem v_iast (X : Cx p args s m meth c g cc nL own rt N0) {a n k : Nat} {i x : Int32} {row : Nat → Int32} (d : decode cc pc = .ok (.iastore, 1)) (ha : g.2.2 ≤ a ∧ a < g.2.2 + N) (hc : f a = .inl (g.2.1.1, n, .inl row)) (hi : i = nI k) (hk : k < n) (hn : n < 2 ^ 31) (kk : V p l e R s m args below meth c Q g nL cs ss N (upP f a (.inl (g.2.1.1, n, .inl (upd row k x)))) (pc + 1) lv st) : V p l e R s m args below meth c Q g nL cs ss N f pc lv (.int x :: .int i :: .ref a :: st) := by
  intro H locs ls hP hS hl'
  obtain ⟨h1, h2⟩ := nI_use hi hk hn
  refine va_iast X.1 X.2.1 X.kk hP (wl_D g N f) hS (a - g.2.2) 0 (wl_atE ha.1 ha.2 hc) rfl h1 d (fun H1 locs1 hP1 hD1 hS1 => ?_)
  rw [wl_set ha.1 ha.2, h2] at hP1
  exact kk H1 locs1 ls hP1 hS1 hl'
theorem v_iastB (X : Cx p args s m meth c g cc nL own rt N0) {n : Nat} {i x : Int32} {row : Nat → Int32} (hB : BB g N o nB) (d : decode cc pc = .ok (.iastore, 1)) (j : Nat) (hjn : j < nB) (hj : L[j]? = some (.inl (g.2.1.1, n, .inl row))) (k : Nat) (hi : i = nI k) (hk : k < n) (hn : n < 2 ^ 31) (hL : L.set j (.inl (g.2.1.1, n, .inl (upd row k x))) = L') (kk : V p l e R s m args below meth c Q g nL cs ss N (ovr f o L') (pc + 1) lv st) : V p l e R s m args below meth c Q g nL cs ss N (ovr f o L) pc lv (.int x :: .int i :: .ref (o + j) :: st) := by
  refine v_iast X d ⟨hB.lo, hB.hi hjn⟩ (ovr_at hj) hi hk hn ?_
  rw [ovr_up (getE_lt hj), hL]
  exact kk
theorem v_cald (X : Cx p args s m meth c g cc nL own rt N0) {a n k : Nat} {i : Int32} {row : Nat → Int32} (d : decode cc pc = .ok (.caload, 1)) (ha : g.2.2 ≤ a ∧ a < g.2.2 + N) (hc : f a = .inl (g.2.1.2.1, n, .inl row)) (hi : i = nI k) (hk : k < n) (hn : n < 2 ^ 31) (kk : V p l e R s m args below meth c Q g nL cs ss N f (pc + 1) lv (.int (row k) :: st)) : V p l e R s m args below meth c Q g nL cs ss N f pc lv (.int i :: .ref a :: st) := by
  intro H locs ls hP hS hl'
  obtain ⟨h1, h2⟩ := nI_use hi hk hn
  refine va_cald X.1 X.2.1 X.kk hP (a - g.2.2) 1 (wl_atE ha.1 ha.2 hc) rfl h1 d ?_
  rw [h2]
  exact kk H locs ls hP hS hl'
theorem v_caldB (X : Cx p args s m meth c g cc nL own rt N0) {n : Nat} {i : Int32} {row : Nat → Int32} (hB : BB g N o nB) (d : decode cc pc = .ok (.caload, 1)) (j : Nat) (hjn : j < nB) (hj : L[j]? = some (.inl (g.2.1.2.1, n, .inl row))) (k : Nat) (hi : i = nI k) (hk : k < n) (hn : n < 2 ^ 31) (kk : V p l e R s m args below meth c Q g nL cs ss N (ovr f o L) (pc + 1) lv (.int (row k) :: st)) : V p l e R s m args below meth c Q g nL cs ss N (ovr f o L) pc lv (.int i :: .ref (o + j) :: st) :=
  v_cald X d ⟨hB.lo, hB.hi hjn⟩ (ovr_at hj) hi hk hn kk
theorem v_cast (X : Cx p args s m meth c g cc nL own rt N0) {a n k : Nat} {i x : Int32} {row : Nat → Int32} (d : decode cc pc = .ok (.castore, 1)) (ha : g.2.2 ≤ a ∧ a < g.2.2 + N) (hc : f a = .inl (g.2.1.2.1, n, .inl row)) (hi : i = nI k) (hk : k < n) (hn : n < 2 ^ 31) (kk : V p l e R s m args below meth c Q g nL cs ss N (upP f a (.inl (g.2.1.2.1, n, .inl (upd row k (vp_nar .char x))))) (pc + 1) lv st) : V p l e R s m args below meth c Q g nL cs ss N f pc lv (.int x :: .int i :: .ref a :: st) := by
  intro H locs ls hP hS hl'
  obtain ⟨h1, h2⟩ := nI_use hi hk hn
  refine va_cast X.1 X.2.1 X.kk hP (wl_D g N f) hS (a - g.2.2) 1 (wl_atE ha.1 ha.2 hc) rfl h1 d (fun H1 locs1 hP1 hD1 hS1 => ?_)
  rw [wl_set ha.1 ha.2, h2] at hP1
  exact kk H1 locs1 ls hP1 hS1 hl'
theorem v_castB (X : Cx p args s m meth c g cc nL own rt N0) {n : Nat} {i x : Int32} {row : Nat → Int32} (hB : BB g N o nB) (d : decode cc pc = .ok (.castore, 1)) (j : Nat) (hjn : j < nB) (hj : L[j]? = some (.inl (g.2.1.2.1, n, .inl row))) (k : Nat) (hi : i = nI k) (hk : k < n) (hn : n < 2 ^ 31) (hL : L.set j (.inl (g.2.1.2.1, n, .inl (upd row k (vp_nar .char x)))) = L') (kk : V p l e R s m args below meth c Q g nL cs ss N (ovr f o L') (pc + 1) lv st) : V p l e R s m args below meth c Q g nL cs ss N (ovr f o L) pc lv (.int x :: .int i :: .ref (o + j) :: st) := by
  refine v_cast X d ⟨hB.lo, hB.hi hjn⟩ (ovr_at hj) hi hk hn ?_
  rw [ovr_up (getE_lt hj), hL]
  exact kk
theorem v_iald_vw (X : Cx p args s m meth c g cc nL own rt N0) {n b s' : Nat} {i : Int32} {σ : Nat → Int32} (hB : BB g N o nB) (d : decode cc pc = .ok (.iaload, 1)) (j : Nat) (hjn : j < nB) (hj : L[j]? = some (.inl (g.2.1.1, n, .inl (fun i => if i < n then σ (b + s' * i) else 0)))) (k : Nat) (hi : i = nI k) (hk : k < n) (hn : n < 2 ^ 31) (kk : V p l e R s m args below meth c Q g nL cs ss N (ovr f o L) (pc + 1) lv (.int (σ (b + s' * k)) :: st)) : V p l e R s m args below meth c Q g nL cs ss N (ovr f o L) pc lv (.int i :: .ref (o + j) :: st) := by
  refine v_ialdB X hB d j hjn hj k hi hk hn ?_
  rw [if_pos hk]
  exact kk
theorem v_aald (X : Cx p args s m meth c g cc nL own rt N0) {a n k : Nat} {i : Int32} {row : Nat → Option Nat} {v : Value} (d : decode cc pc = .ok (.aaload, 1)) (ha : g.2.2 ≤ a ∧ a < g.2.2 + N) (hc : f a = .inl (g.2.1.2.2, n, .inr (.inr (.inr (.inr row))))) (hi : i = nI k) (hk : k < n) (hn : n < 2 ^ 31) (hv : va_rf (row k) = v) (kk : V p l e R s m args below meth c Q g nL cs ss N f (pc + 1) lv (v :: st)) : V p l e R s m args below meth c Q g nL cs ss N f pc lv (.int i :: .ref a :: st) := by
  intro H locs ls hP hS hl'
  obtain ⟨h1, h2⟩ := nI_use hi hk hn
  refine va_aldq X.1 X.2.1 X.kk hP (a - g.2.2) 2 (wl_atE ha.1 ha.2 hc) rfl h1 d ?_
  rw [h2, hv]
  exact kk H locs ls hP hS hl'
theorem v_aast (X : Cx p args s m meth c g cc nL own rt N0) {a n k v : Nat} {i : Int32} {row : Nat → Option Nat} {fs : List Value} (d : decode cc pc = .ok (.aastore, 1)) (ha : g.2.2 ≤ a ∧ a < g.2.2 + N) (hc : f a = .inl (g.2.1.2.2, n, .inr (.inr (.inr (.inr row))))) (hv : g.2.2 ≤ v ∧ v < g.2.2 + N) (hcv : f v = .inr (4, fs)) (hi : i = nI k) (hk : k < n) (hn : n < 2 ^ 31) (kk : V p l e R s m args below meth c Q g nL cs ss N (upP f a (.inl (g.2.1.2.2, n, .inr (.inr (.inr (.inr (va_up row k (some v)))))))) (pc + 1) lv st) : V p l e R s m args below meth c Q g nL cs ss N f pc lv (.ref v :: .int i :: .ref a :: st) := by
  intro H locs ls hP hS hl'
  obtain ⟨h1, h2⟩ := nI_use hi hk hn
  refine va_astq X.1 X.2.1 X.kk hP (wl_D g N f) hS (a - g.2.2) 2 (v - g.2.2) 4 (r := (RX4, TX4, 7)) (wl_atE ha.1 ha.2 hc) rfl (wl_atE hv.1 hv.2 hcv) rfl h1 d (fun H1 locs1 hP1 hD1 hS1 => ?_)
  rw [wl_set ha.1 ha.2, h2] at hP1
  exact kk H1 locs1 ls hP1 hS1 hl'
theorem HP_push {H H1 : Heap} {e0 : va_E} (hP : HP g N f H) (hk : ∀ q : Nat, q < H.size → H1[q]? = H[q]?) (he : va_at g.1 vwCl (g.2.2 + N, e0) H1) : HP g (N + 1) (upP f (g.2.2 + N) e0) H1 := by
  unfold HP
  rw [← wl_push]
  refine (hP.kept fun k q h => hk q.1 ((hP k q h).lt)).app fun k q h => ?_
  have hz : k < 1 := (List.getElem?_eq_some_iff.mp h).1
  rw [show k = 0 by omega] at h
  cases h
  exact he
theorem S_push {A : Nat → Prop} {H0 H H1 : Heap} {locs : List Loc} (hS : va_S A H0 H locs) (hz : H.size ≤ H1.size) (hk : ∀ q : Nat, q < H.size → H1[q]? = H[q]?) : va_S A H0 H1 locs :=
  ⟨Nat.le_trans hS.1 hz, fun x h1 h2 => (hk x (Nat.lt_of_lt_of_le h1 hS.1)).trans (hS.2.1 x h1 h2), hS.2.2⟩
theorem v_new (X : Cx p args s m meth c g cc nL own rt N0) {ci idx : Nat} {C : String} {T : u_T} {n : Nat} {ty : Nat → FieldType} {fs : List Value} (hz : N = N0 + cs) (cf : CF ci C T n ty) (hcl : Cond.classLink own idx C ∈ gT) (hin : Cond.instantiable C n ∈ gT) (hini : Cond.initialized C ∈ gT) (hfs : ∀ j, j < n → defaultValue (ty j) = vp_V fs j) (hR : cs + 1 ≤ R.cells ∧ ss + n ≤ R.slots) (d : decode cc pc = .ok (.new idx, 3)) (kk : V p l e R s m args below meth c Q g nL (cs + 1) (ss + n) (N + 1) (upP f (g.2.2 + N) (.inr (ci, fs))) (pc + 3) lv (.ref (g.2.2 + N) :: st)) : V p l e R s m args below meth c Q g nL cs ss N f pc lv st := by
  intro H locs ls hP hS hl' T hT St
  have hsz := X.size hz hT hP St
  have hKn := X.kk.1 ci _ cf.1
  suffices hW : W p l e R s m args below meth c H locs cs ss Q (F0 m pc ls st) from hW T hT St
  refine W.newcK (g := F0 m pc ls st) X.1 X.2.1 X.2.2.2.1 (X.wd hcl) (X.wd hin) (X.wd hini) rfl d hR.1 hR.2 hKn.2.1 hsz (fun H1 kC hkC e1 z1 o1 => ?_)
  exact kk H1 locs ls (HP_push hP (fun q hq => o1 q (by omega)) ⟨_, cf.1, (u_born ty X.2.2.2.2.1 cf.2.1 hKn hkC e1 cf.2.2.1).to hfs⟩) (S_push hS (by omega) (fun q hq => o1 q (by omega))) hl'
theorem v_newa_i (X : Cx p args s m meth c g cc nL own rt N0) {n : Int32} {n' : Nat} (hz : N = N0 + cs) (hw : Cond.arrayClass .int ∈ gT) (hn : n = nI n') (hn' : n' ≤ 100000) (hR : cs + 1 ≤ R.cells ∧ ss + n' ≤ R.slots) (d : decode cc pc = .ok (.newarray .int, 2)) (kk : V p l e R s m args below meth c Q g nL (cs + 1) (ss + n') (N + 1) (upP f (g.2.2 + N) (.inl (g.2.1.1, n', .inl (fun _ => 0)))) (pc + 2) lv (.ref (g.2.2 + N) :: st)) : V p l e R s m args below meth c Q g nL cs ss N f pc lv (.int n :: st) := by
  intro H locs ls hP hS hl' T hT St
  have hsz := X.size hz hT hP St
  subst hn
  suffices hW : W p l e R s m args below meth c H locs cs ss Q (F0 m pc ls (.int (nI n') :: st)) from hW T hT St
  refine va_newaK (g := F0 m pc ls (.int (nI n') :: st)) X.1 X.2.1 (atype := .int) (X.wd hw) rfl d rfl (nI_pos (by omega)) (nI_clamp (by omega)) ?_ hR.1 hR.2 hsz (fun H1 cA e1 z1 o1 hAr hNm => ?_)
  · show n' * componentBytes .int ≤ _
    have : componentBytes .int ≤ 8 := by decide
    calc n' * componentBytes .int ≤ n' * 8 := Nat.mul_le_mul_left _ this
      _ ≤ _ := by omega
  · have hcA : g.2.1.1 = cA := by
      have h1 := (X.kk.2 0 _ rfl).2
      exact Option.some.inj (h1.symm.trans hNm)
    subst hcA
    exact kk H1 locs ls (HP_push hP (fun q hq => o1 q (by omega)) e1) (S_push hS (by omega) (fun q hq => o1 q (by omega))) hl'
theorem v_newa_c (X : Cx p args s m meth c g cc nL own rt N0) {n : Int32} {n' : Nat} (hz : N = N0 + cs) (hw : Cond.arrayClass .char ∈ gT) (hn : n = nI n') (hn' : n' ≤ 100000) (hR : cs + 1 ≤ R.cells ∧ ss + n' ≤ R.slots) (d : decode cc pc = .ok (.newarray .char, 2)) (kk : V p l e R s m args below meth c Q g nL (cs + 1) (ss + n') (N + 1) (upP f (g.2.2 + N) (.inl (g.2.1.2.1, n', .inl (fun _ => 0)))) (pc + 2) lv (.ref (g.2.2 + N) :: st)) : V p l e R s m args below meth c Q g nL cs ss N f pc lv (.int n :: st) := by
  intro H locs ls hP hS hl' T hT St
  have hsz := X.size hz hT hP St
  subst hn
  suffices hW : W p l e R s m args below meth c H locs cs ss Q (F0 m pc ls (.int (nI n') :: st)) from hW T hT St
  refine va_newaK (g := F0 m pc ls (.int (nI n') :: st)) X.1 X.2.1 (atype := .char) (X.wd hw) rfl d rfl (nI_pos (by omega)) (nI_clamp (by omega)) ?_ hR.1 hR.2 hsz (fun H1 cA e1 z1 o1 hAr hNm => ?_)
  · show n' * componentBytes .char ≤ _
    have : componentBytes .char ≤ 8 := by decide
    calc n' * componentBytes .char ≤ n' * 8 := Nat.mul_le_mul_left _ this
      _ ≤ _ := by omega
  · have hcA : g.2.1.2.1 = cA := by
      have h1 := (X.kk.2 1 _ rfl).2
      exact Option.some.inj (h1.symm.trans hNm)
    subst hcA
    exact kk H1 locs ls (HP_push hP (fun q hq => o1 q (by omega)) e1) (S_push hS (by omega) (fun q hq => o1 q (by omega))) hl'
theorem v_newq (X : Cx p args s m meth c g cc nL own rt N0) {n : Int32} {n' idx : Nat} (hz : N = N0 + cs) (hcl : Cond.classLink own idx RX4 ∈ gT) (hn : n = nI n') (hn' : n' ≤ 100000) (hR : cs + 1 ≤ R.cells ∧ ss + n' ≤ R.slots) (d : decode cc pc = .ok (.anewarray idx, 3)) (kk : V p l e R s m args below meth c Q g nL (cs + 1) (ss + n') (N + 1) (upP f (g.2.2 + N) (.inl (g.2.1.2.2, n', .inr (.inr (.inr (.inr (fun _ => none))))))) (pc + 3) lv (.ref (g.2.2 + N) :: st)) : V p l e R s m args below meth c Q g nL cs ss N f pc lv (.int n :: st) := by
  intro H locs ls hP hS hl' T hT St
  have hsz := X.size hz hT hP St
  subst hn
  have hcl' : (nI n').toNatClampNeg = n' := nI_clamp (by omega)
  suffices hW : W p l e R s m args below meth c H locs cs ss Q (F0 m pc ls (.int (nI n') :: st)) from hW T hT St
  refine W.anew (g := F0 m pc ls (.int (nI n') :: st)) X.1 X.2.1 X.2.2.2.1 (X.wd hcl) (va_AO.use X.2.2.2.2.2.2.2.1.2.2) rfl d rfl (nI_pos (by omega)) (by rw [hcl']; omega) hR.1 (by rw [hcl']; exact hR.2) (fun cA kA comp f1 f2 f3 f4 => ?_)
  rw [hcl']
  have hcA : g.2.1.2.2 = cA := by
    obtain ⟨_, _, _, _, _, h1⟩ := (X.kk.2 2 _ rfl).2
    exact Option.some.inj (h1.symm.trans f1)
  subst hcA
  rw [hsz]
  generalize hH1 : H.push ({ cls := g.2.1.2.2, slots := Array.replicate n' .null, vm := .none } : Cell) = H1
  have z1 : H1.size = H.size + 1 := by rw [← hH1, Array.size_push]
  have e1 : H1[g.2.2 + N]? = some (arrV g.2.1.2.2 n' (fun _ => .null)) := by rw [← hH1, ← hsz, Array.getElem?_push_size, ← arrV_new]
  have o1 : ∀ q : Nat, q < H.size → H1[q]? = H[q]? := fun q hq => by rw [← hH1, Array.getElem?_push, if_neg (Nat.ne_of_lt hq)]
  exact kk H1 locs ls (HP_push hP o1 e1) (S_push hS (by omega) o1) hl'
end V2
end
section
section V3
variable {p : Program} {l : Launch} {e : Env} {R : Room} {s : State} {m : MethodId} {args : Array Value} {below : List Frame} {meth : Method} {c : Code} {Q : State → Prop}
variable {g : Ge} {cc : ByteArray} {nL : Nat} {own : String} {rt : Option FieldType} {N0 cs ss N : Nat} {f : Pic} {pc : Nat} {lv : List (Option Value)} {st : List Value} {o : Nat} {L L' : List va_E}
def YC (y : MethodName) (bytes : ByteArray) (maxL : Nat) (ret : Option FieldType) (n : Nat) : Prop := Cond.code y bytes maxL ret ∈ gT ∧ Cond.initialized y.cls ∈ gT ∧ y.cls ≠ "java/lang/invoke/MethodHandle" ∧ y.cls ≠ "java/lang/invoke/VarHandle" ∧ (parseMethodDescriptor y.desc).map (fun d => d.parameters.length) = some n
/-- an instance method, called by its own class's name -/
def YV (y : MethodName) (bytes : ByteArray) (maxL : Nat) (ret : Option FieldType) (n ci : Nat) : Prop := YC y bytes maxL ret n ∧ Cond.instanceMethod y ∈ gT ∧ ∃ (C : String) (T : u_T) (k : Nat), vwCl[ci]? = some (C, T, k) ∧ Cond.selects C y y ∈ gT
def YS (y : MethodName) (bytes : ByteArray) (maxL : Nat) (ret : Option FieldType) (n : Nat) : Prop := YC y bytes maxL ret n ∧ Cond.static y ∈ gT
def YI (y : MethodName) (bytes : ByteArray) (maxL n : Nat) : Prop := YC y bytes maxL none n ∧ Cond.instanceMethod y ∈ gT ∧ y.name = "<init>"
theorem gT_in {w : Cond} (h : w ∈ gT) : GoodIn gT (w :: gT) := fun x hx => by
  rcases List.mem_cons.mp hx with rfl | hx
  · exact ⟨h, good_of_word (gT_good h)⟩
  · exact ⟨hx, good_of_word (gT_good hx)⟩
theorem ct_blind {As : List Value} : FrameBlind (va_Pc As (fun U => U.heap.size = g.2.2 + N ∧ HP g N f U.heap ∧ KK g U)) := fun a U g' mk q => ⟨q.1, q.2.1, q.2.2.1, q.2.2.2.calling⟩
theorem Cx.fix (X : Cx p args s m meth c g cc nL own rt N0) : CallFix p m c cc nL s args gT own := ⟨X.1, X.2.1, X.2.2.1, X.2.2.2.1, X.2.2.2.2.1⟩
theorem YC.callB {y : MethodName} {bytes : ByteArray} {maxL n idx d mc ms : Nat} {ret : Option FieldType} (h : YC y bytes maxL ret n) (X : Cx p args s m meth c g cc nL own rt N0) (hml : Cond.methodLink own idx y ∈ gT) (hR : d + 1 ≤ R.frames ∧ 8 + (maxL + 11) + 35 * d ≤ R.locals) : CallB R s args own idx y bytes maxL ret (Cond.code y bytes maxL ret :: gT) (rmD d mc ms) mc ms n :=
  callB_of (ws' := gT) n X.2.2.2.2.1 (gT_in h.1) rfl rfl rfl (X.wd h.2.1) (X.wd hml) ⟨h.2.2.1, h.2.2.2.1, h.2.2.2.2⟩ hR
/-- behind a call that kept its contract -/
theorem v_back (X : Cx p args s m meth c g cc nL own rt N0) {mc ms N' : Nat} {f' : Pic} {r : Option Value} {st0 st' : List Value} {a : Array Value} {T : State} {H : Heap} {locs : List Loc} {ls : Array Slot} (hP : HP g N f H) (hS : va_S (gA g) s.heap H locs) (hl : lv_has ls nL (lvp 0 lv)) (hT : T.heap = H) (St : Stand p l e R s m args below meth c T locs cs ss)
    (hr : va_Run p l e R s m args below meth c H locs cs ss mc ms (F0 m pc ls st0) st (CtQ g r N' f' a) (gA g)) (hst : r.toList ++ st = st') (kk : V p l e R s m args below meth c Q g nL (cs + mc) (ss + ms) N' f' (pc + 3) lv st') : ∃ t, Steps p.tables e below (T.setTop (F0 m pc ls st0)) t ∧ Q t := by
  obtain ⟨v, st₀, t, T', L, h0, X', hL, e1, e2, ⟨hv, hPt, hk⟩, stp⟩ := hr T hT St
  cases hv
  subst hst
  have hS' : va_S (gA g) s.heap T'.heap (locs ++ L) := by
    refine ⟨X'.same.2.1, fun q h1 h2 => ?_, fun q hq => ?_⟩
    · have hq : q < g.2.2 := Nat.not_le.mp h2
      rw [e1, hk q hq, h0]
      exact hS.2.1 q h1 h2
    · rcases List.mem_append.mp hq with h | h
      · exact hS.2.2 q h
      · exact hL q h
  obtain ⟨t2, a1, b1⟩ := kk T'.heap (locs ++ L) ls (by rw [e1]; exact hPt) hS' hl T' rfl X'
  exact ⟨t2, stp t2 a1, b1⟩
theorem v_callV (X : Cx p args s m meth c g cc nL own rt N0) {y : MethodName} {bytes : ByteArray} {maxL idx d mc ms N' b ci : Nat} {ret : Option FieldType} {As : List Value} {f' : Pic} {r : Option Value} {fs : List Value} {st0 st' : List Value} (hz : N = N0 + cs) {n : Nat} (hy : YV y bytes maxL ret n ci) (hml : Cond.methodLink own idx y ∈ gT) (hC : Ct l g y (.code y bytes maxL ret) d (.ref b :: As) N f r N' f' mc ms) (hb : g.2.2 ≤ b ∧ b < g.2.2 + N) (hrec : f b = .inr (ci, fs)) (hst0 : st0 = As.reverse ++ .ref b :: st) (hlen : As.length = n) (hcat : (st.map fun v => v.category).sum ≤ 8) (hR : d + 1 ≤ R.frames ∧ 8 + (maxL + 11) + 35 * d ≤ R.locals) (hf : cs + mc ≤ R.cells ∧ ss + ms ≤ R.slots) (dd : decode cc pc = .ok (.invokevirtual idx, 3)) (hst : r.toList ++ st = st') (kk : V p l e R s m args below meth c Q g nL (cs + mc) (ss + ms) N' f' (pc + 3) lv st') : V p l e R s m args below meth c Q g nL cs ss N f pc lv st0 := by
  intro H locs ls hP hS hl T hT St
  have hsz := X.size hz hT hP St
  obtain ⟨hyc, hin, C, T0, k, hcl, hsel⟩ := hy
  refine v_back X hP hS hl hT St (va_runV (g := F0 m pc ls st0) X.fix hC ⟨hyc.callB X hml hR, X.wd hin, X.wd hsel⟩ ⟨ct_blind, va_recv X.kk hP hcl (wl_atE hb.1 hb.2 hrec), fun U hU hW => ⟨rfl, by rw [hU]; exact hsz, by rw [hU]; exact hP, KK.warm hW X.2.2.2.2.2.2.2.1⟩⟩ rfl hlen hl.1 hst0 (lv_room (rest := st0) hcat) dd hf) hst kk
theorem v_callS (X : Cx p args s m meth c g cc nL own rt N0) {y : MethodName} {bytes : ByteArray} {maxL idx d mc ms N' : Nat} {ret : Option FieldType} {As : List Value} {f' : Pic} {r : Option Value} {st0 st' : List Value} (hz : N = N0 + cs) {n : Nat} (hy : YS y bytes maxL ret n) (hml : Cond.methodLink own idx y ∈ gT) (hC : Ct l g y (.code y bytes maxL ret) d As N f r N' f' mc ms) (hst0 : st0 = As.reverse ++ st) (hlen : As.length = n) (hcat : (st.map fun v => v.category).sum ≤ 8) (hR : d + 1 ≤ R.frames ∧ 8 + (maxL + 11) + 35 * d ≤ R.locals) (hf : cs + mc ≤ R.cells ∧ ss + ms ≤ R.slots) (dd : decode cc pc = .ok (.invokestatic idx, 3)) (hst : r.toList ++ st = st') (kk : V p l e R s m args below meth c Q g nL (cs + mc) (ss + ms) N' f' (pc + 3) lv st') : V p l e R s m args below meth c Q g nL cs ss N f pc lv st0 := by
  intro H locs ls hP hS hl T hT St
  have hsz := X.size hz hT hP St
  refine v_back X hP hS hl hT St (va_runS (g := F0 m pc ls st0) X.fix hC ⟨hy.1.callB X hml hR, X.wd hy.2⟩ ⟨ct_blind, fun U hU hW => ⟨rfl, by rw [hU]; exact hsz, by rw [hU]; exact hP, KK.warm hW X.2.2.2.2.2.2.2.1⟩⟩ rfl hlen hl.1 hst0 (lv_room (rest := st0) hcat) dd hf) hst kk
theorem v_callSN (X : Cx p args s m meth c g cc nL own rt N0) {y : MethodName} {bytes : ByteArray} {maxL idx d mc ms N' : Nat} {host : String} {ret : Option FieldType} {As : List Value} {f' : Pic} {r : Option Value} {st0 st' : List Value} (hz : N = N0 + cs) {n : Nat} (hy : YS y bytes maxL ret n) (hml : (own, idx, y, host) ∈ gN) (hC : Ct l g y (.code y bytes maxL ret) d As N f r N' f' mc ms) (hst0 : st0 = As.reverse ++ st) (hlen : As.length = n) (hcat : (st.map fun v => v.category).sum ≤ 8) (hR : d + 1 ≤ R.frames ∧ 8 + (maxL + 11) + 35 * d ≤ R.locals) (hf : cs + mc ≤ R.cells ∧ ss + ms ≤ R.slots) (dd : decode cc pc = .ok (.invokestatic idx, 3)) (hst : r.toList ++ st = st') (kk : V p l e R s m args below meth c Q g nL (cs + mc) (ss + ms) N' f' (pc + 3) lv st') : V p l e R s m args below meth c Q g nL cs ss N f pc lv st0 := by
  intro H locs ls hP hS hl T hT St
  have hsz := X.size hz hT hP St
  refine v_back X hP hS hl hT St (va_runSN (g := F0 m pc ls st0) X.fix hC ⟨va_cnB (ws' := gT) n X.2.2.2.2.1 (gT_in hy.1.1) rfl rfl rfl (X.2.2.2.2.2.2.2.1.2.1 _ hml) (X.wd hy.1.2.1) ⟨hy.1.2.2.1, hy.1.2.2.2.1, hy.1.2.2.2.2⟩ hR, X.wd hy.2, trivial⟩ ⟨ct_blind, fun U hU hW => ⟨rfl, by rw [hU]; exact hsz, by rw [hU]; exact hP, KK.warm hW X.2.2.2.2.2.2.2.1⟩⟩ rfl hlen hl.1 hst0 (lv_room (rest := st0) hcat) dd hf) hst kk
theorem v_callI (X : Cx p args s m meth c g cc nL own rt N0) {y : MethodName} {bytes : ByteArray} {maxL idx d mc ms N' b : Nat} {As : List Value} {f' : Pic} {st0 : List Value} (hz : N = N0 + cs) {n : Nat} (hy : YI y bytes maxL n) (hml : Cond.methodLink own idx y ∈ gT) (hC : Ct l g y (.code y bytes maxL none) d (.ref b :: As) N f none N' f' mc ms) (hst0 : st0 = As.reverse ++ .ref b :: st) (hlen : As.length = n) (hcat : (st.map fun v => v.category).sum ≤ 8) (hR : d + 1 ≤ R.frames ∧ 8 + (maxL + 11) + 35 * d ≤ R.locals) (hf : cs + mc ≤ R.cells ∧ ss + ms ≤ R.slots) (dd : decode cc pc = .ok (.invokespecial idx, 3)) (kk : V p l e R s m args below meth c Q g nL (cs + mc) (ss + ms) N' f' (pc + 3) lv st) : V p l e R s m args below meth c Q g nL cs ss N f pc lv st0 := by
  intro H locs ls hP hS hl T hT St
  have hsz := X.size hz hT hP St
  refine v_back X hP hS hl hT St (va_runI (g := F0 m pc ls st0) X.fix hC ⟨hy.1.callB X hml hR, hy.2.2, X.wd hy.2.1⟩ ⟨ct_blind, fun U hU hW => ⟨rfl, by rw [hU]; exact hsz, by rw [hU]; exact hP, KK.warm hW X.2.2.2.2.2.2.2.1⟩⟩ rfl hlen hl.1 hst0 (lv_room (rest := st0) hcat) dd hf) rfl kk
theorem v_callIN (X : Cx p args s m meth c g cc nL own rt N0) {y : MethodName} {bytes : ByteArray} {maxL idx d mc ms N' b : Nat} {host : String} {As : List Value} {f' : Pic} {st0 : List Value} (hz : N = N0 + cs) {n : Nat} (hy : YI y bytes maxL n) (hml : (own, idx, y, host) ∈ gN) (hC : Ct l g y (.code y bytes maxL none) d (.ref b :: As) N f none N' f' mc ms) (hst0 : st0 = As.reverse ++ .ref b :: st) (hlen : As.length = n) (hcat : (st.map fun v => v.category).sum ≤ 8) (hR : d + 1 ≤ R.frames ∧ 8 + (maxL + 11) + 35 * d ≤ R.locals) (hf : cs + mc ≤ R.cells ∧ ss + ms ≤ R.slots) (dd : decode cc pc = .ok (.invokespecial idx, 3)) (kk : V p l e R s m args below meth c Q g nL (cs + mc) (ss + ms) N' f' (pc + 3) lv st) : V p l e R s m args below meth c Q g nL cs ss N f pc lv st0 := by
  intro H locs ls hP hS hl T hT St
  have hsz := X.size hz hT hP St
  refine v_back X hP hS hl hT St (va_runIN (g := F0 m pc ls st0) X.fix hC ⟨va_cnB (ws' := gT) n X.2.2.2.2.1 (gT_in hy.1.1) rfl rfl rfl (X.2.2.2.2.2.2.2.1.2.1 _ hml) (X.wd hy.1.2.1) ⟨hy.1.2.2.1, hy.1.2.2.2.1, hy.1.2.2.2.2⟩ hR, hy.2.2, X.wd hy.2.1⟩ ⟨ct_blind, fun U hU hW => ⟨rfl, by rw [hU]; exact hsz, by rw [hU]; exact hP, KK.warm hW X.2.2.2.2.2.2.2.1⟩⟩ rfl hlen hl.1 hst0 (lv_room (rest := st0) hcat) dd hf) rfl kk
theorem v_objInit (X : Cx p args s m meth c g cc nL own rt N0) {idx a : Nat} (hml : Cond.methodLink own idx objectInit ∈ gT) (hcat : (st.map fun v => v.category).sum ≤ 8) (hR : 1 ≤ R.frames ∧ 20 ≤ R.locals) (d : decode cc pc = .ok (.invokespecial idx, 3)) (kk : V p l e R s m args below meth c Q g nL cs ss N f (pc + 3) lv st) : V p l e R s m args below meth c Q g nL cs ss N f pc lv (.ref a :: st) :=
  fun H locs ls hP hS hl => W.objInit X.1 X.2.1 X.2.2.2.1 (X.wd hml) (X.wd m_in_init) (X.wd m_co_init) rfl (by rw [X.2.2.1]; exact hl.1) rfl d hR.1 (by have := lv_room (m := m) (pc := pc) (ls := ls) (rest := .ref a :: st) hcat; omega) (kk H locs ls hP hS hl)
theorem v_mmax (X : Cx p args s m meth c g cc nL own rt N0) {idx : Nat} {x y v : Int32} (hml : Cond.methodLink own idx yJ9_max_7cf53 ∈ gT) (hcat : (st.map fun v => v.category).sum ≤ 8) (hR : 1 ≤ R.frames ∧ 21 ≤ R.locals) (hc : cs ≤ R.cells ∧ ss ≤ R.slots) (d : decode cc pc = .ok (.invokestatic idx, 3)) (hv : (if x < y then y else x) = v) (kk : V p l e R s m args below meth c Q g nL cs ss N f (pc + 3) lv (.int v :: st)) : V p l e R s m args below meth c Q g nL cs ss N f pc lv (.int y :: .int x :: st) := by
  intro H locs ls hP hS hl
  refine va_mmax X.1 X.2.1 (by rw [X.2.2.1]; exact hl.1.symm) X.2.2.2.1 (X.wd hml) (X.wd m_st_J9_max_7cf53) (X.wd m_ini_J9) (X.wd m_co_J9_max_7cf53) hR.1 (by omega) hc.1 hc.2 d ?_
  first | rw [hv] | (have hv' := hv; simp only at hv'; rw [hv'])
  exact kk H locs ls hP hS hl
theorem v_mmin (X : Cx p args s m meth c g cc nL own rt N0) {idx : Nat} {x y v : Int32} (hml : Cond.methodLink own idx yJ9_min_7cf53 ∈ gT) (hcat : (st.map fun v => v.category).sum ≤ 8) (hR : 1 ≤ R.frames ∧ 21 ≤ R.locals) (hc : cs ≤ R.cells ∧ ss ≤ R.slots) (d : decode cc pc = .ok (.invokestatic idx, 3)) (hv : (if y < x then y else x) = v) (kk : V p l e R s m args below meth c Q g nL cs ss N f (pc + 3) lv (.int v :: st)) : V p l e R s m args below meth c Q g nL cs ss N f pc lv (.int y :: .int x :: st) := by
  intro H locs ls hP hS hl
  refine va_mmin X.1 X.2.1 (by rw [X.2.2.1]; exact hl.1.symm) X.2.2.2.1 (X.wd hml) (X.wd m_st_J9_min_7cf53) (X.wd m_ini_J9) (X.wd m_co_J9_min_7cf53) hR.1 (by omega) hc.1 hc.2 d ?_
  first | rw [hv] | (have hv' := hv; simp only at hv'; rw [hv'])
  exact kk H locs ls hP hS hl
theorem v_mabs (X : Cx p args s m meth c g cc nL own rt N0) {idx : Nat} {x v : Int32} (hml : Cond.methodLink own idx yJ9_abs_0f7a4 ∈ gT) (hcat : (st.map fun v => v.category).sum ≤ 8) (hR : 1 ≤ R.frames ∧ 21 ≤ R.locals) (hc : cs ≤ R.cells ∧ ss ≤ R.slots) (d : decode cc pc = .ok (.invokestatic idx, 3)) (hv : (if 0 ≤ x then x else 0 - x) = v) (kk : V p l e R s m args below meth c Q g nL cs ss N f (pc + 3) lv (.int v :: st)) : V p l e R s m args below meth c Q g nL cs ss N f pc lv (.int x :: st) := by
  intro H locs ls hP hS hl
  refine va_mabs X.1 X.2.1 (by rw [X.2.2.1]; exact hl.1.symm) X.2.2.2.1 (X.wd hml) (X.wd m_st_J9_abs_0f7a4) (X.wd m_ini_J9) (X.wd m_co_J9_abs_0f7a4) hR.1 (by omega) hc.1 hc.2 d ?_
  first | rw [hv] | (have hv' := hv; simp only at hv'; rw [hv'])
  exact kk H locs ls hP hS hl
theorem v_copy (X : Cx p args s m meth c g cc nL own rt N0) {idx a a0 n0 n1 n : Nat} {sp dp z : Int32} {src dst : Nat → Int32} (hml : Cond.methodLink own idx arraycopyName ∈ gT) (h0 : sp = 0) (h1 : dp = 0) (hz : z = nI n) (hn : n < 2 ^ 31) (hn0 : n ≤ n0) (hn1 : n ≤ n1) (ha0 : g.2.2 ≤ a0 ∧ a0 < g.2.2 + N) (hc0 : f a0 = .inl (g.2.1.1, n0, .inl src)) (ha : g.2.2 ≤ a ∧ a < g.2.2 + N) (hc : f a = .inl (g.2.1.1, n1, .inl dst)) (hcat : (st.map fun v => v.category).sum ≤ 8) (hR : 1 ≤ R.frames ∧ 8 + (nativeFrameWords "java/lang/System" "arraycopy" 5 + 11) ≤ R.locals) (d : decode cc pc = .ok (.invokestatic idx, 3)) (kk : V p l e R s m args below meth c Q g nL cs ss N (upP f a (.inl (g.2.1.1, n1, .inl (va_cpy src dst 0 0 n)))) (pc + 3) lv st) : V p l e R s m args below meth c Q g nL cs ss N f pc lv (.int z :: .int dp :: .ref a :: .int sp :: .ref a0 :: st) := by
  subst h0; subst h1; subst hz
  intro H locs ls hP hS hl
  have e0 : (0 : Int32).toNatClampNeg = 0 := rfl
  have en : (nI n).toNatClampNeg = n := nI_clamp hn
  refine va_copyi (D := g.1) X.1 X.2.1 (by rw [X.2.2.1]; exact hl.1.symm) X.2.2.2.1 (X.wd hml) (X.wd m_na_arraycopy) (X.wd m_st_arraycopy) (X.wd m_ini_J10) X.kk hP (wl_D g N f) hS (a0 - g.2.2) (a - g.2.2) 0 0 (wl_atE ha0.1 ha0.2 hc0) (wl_atE ha.1 ha.2 hc) rfl rfl rfl (by decide) (by decide) (nI_pos hn) (by rw [e0, en]; omega) (by rw [e0, en]; omega) (fun _ _ => rfl) hR.1 (by omega) d (fun H1 locs1 hP1 hD1 hS1 => ?_)
  rw [wl_set ha.1 ha.2, e0, en] at hP1
  exact kk H1 locs1 ls hP1 hS1 hl
theorem v_iret (X : Cx p args s m meth c g cc nL own rt N0) {r : Option Value} {N' : Nat} {f' : Pic} {v : Int32} (hrt : rt = some .int) (d : decode cc pc = .ok (.ireturn, 1)) (hv : some (.int v) = r) (hf : f = f') (hN : N = N' := by rfl) : V p l e R s m args below meth c (MQ below (CtQ g r N' f') args s cs ss (gA g)) g nL cs ss N f pc lv [.int v] :=
  fun H locs ls hP hS hl => W.iret X.1 X.2.1 (by rw [X.2.2.2.2.2.2.1, hrt]) (fun t ht hW => ⟨by rw [hv], by rw [ht]; subst hN; subst hf; exact hP, fun q hq => by rw [ht]; exact hS.2.1 q (by have := X.2.2.2.2.2.2.2.2; omega) (Nat.not_le.mpr hq)⟩) hS.2.2 d (hlocks := X.2.2.2.2.2.1)
theorem v_zret (X : Cx p args s m meth c g cc nL own rt N0) {r : Option Value} {N' : Nat} {f' : Pic} {v : Int32} (hrt : rt = some .boolean) (d : decode cc pc = .ok (.ireturn, 1)) (hn : narrow .boolean (.int v) = .int v) (hv : some (.int v) = r) (hf : f = f') (hN : N = N' := by rfl) : V p l e R s m args below meth c (MQ below (CtQ g r N' f') args s cs ss (gA g)) g nL cs ss N f pc lv [.int v] :=
  fun H locs ls hP hS hl => W.zret X.1 X.2.1 (by rw [X.2.2.2.2.2.2.1, hrt]) hn (fun t ht hW => ⟨by rw [hv], by rw [ht]; subst hN; subst hf; exact hP, fun q hq => by rw [ht]; exact hS.2.1 q (by have := X.2.2.2.2.2.2.2.2; omega) (Nat.not_le.mpr hq)⟩) hS.2.2 d (hlocks := X.2.2.2.2.2.1)
theorem v_lret (X : Cx p args s m meth c g cc nL own rt N0) {r : Option Value} {N' : Nat} {f' : Pic} {v : Int64} (hrt : rt = some .long) (d : decode cc pc = .ok (.lreturn, 1)) (hv : some (.long v) = r) (hf : f = f') (hN : N = N' := by rfl) : V p l e R s m args below meth c (MQ below (CtQ g r N' f') args s cs ss (gA g)) g nL cs ss N f pc lv [.long v] :=
  fun H locs ls hP hS hl => W.lret X.1 X.2.1 (by rw [X.2.2.2.2.2.2.1, hrt]) (fun t ht hW => ⟨by rw [hv], by rw [ht]; subst hN; subst hf; exact hP, fun q hq => by rw [ht]; exact hS.2.1 q (by have := X.2.2.2.2.2.2.2.2; omega) (Nat.not_le.mpr hq)⟩) hS.2.2 d (hlocks := X.2.2.2.2.2.1)
theorem v_vret (X : Cx p args s m meth c g cc nL own rt N0) {r : Option Value} {N' : Nat} {f' : Pic} (hrt : rt = none) (d : decode cc pc = .ok (.return_, 1)) (hv : none = r) (hf : f = f') (hN : N = N' := by rfl) : V p l e R s m args below meth c (MQ below (CtQ g r N' f') args s cs ss (gA g)) g nL cs ss N f pc lv [] :=
  fun H locs ls hP hS hl => W.vret X.1 X.2.1 (by rw [X.2.2.2.2.2.2.1, hrt]) (fun t ht hW => ⟨by rw [hv], by rw [ht]; subst hN; subst hf; exact hP, fun q hq => by rw [ht]; exact hS.2.1 q (by have := X.2.2.2.2.2.2.2.2; omega) (Nat.not_le.mpr hq)⟩) hS.2.2 d (hlocks := X.2.2.2.2.2.1)
theorem v_widen {ks kn : Nat} (h1 : cs ≤ ks) (h2 : ss ≤ kn) (kk : V p l e R s m args below meth c Q g nL ks kn N f pc lv st) : V p l e R s m args below meth c Q g nL cs ss N f pc lv st :=
  fun H locs ls hP hS hl => W.widen h1 h2 (kk H locs ls hP hS hl)
end V3
abbrev Vm (p : Program) (l : Launch) (e : Env) (s : State) (m : MethodId) (args : Array Value) (below : List Frame) (meth : Method) (c : Code) (g : Ge) (d nL N : Nat) (r : Option Value) (f' f : Pic) (pc : Nat) (lv : List (Option Value)) (st : List Value) : Prop := V p l e (rmD d 0 0) s m args below meth c (MQ below (CtQ g r N f') args s 0 0 (gA g)) g nL 0 0 N f pc lv st
theorem ct_of {l : Launch} {g : Ge} {y : MethodName} {own : String} {bytes : ByteArray} {maxL d N N' mc ms : Nat} {ret : Option FieldType} {As : List Value} {f f' : Pic} {r : Option Value} (lv0 : List (Option Value)) (hy : plainName y.cls = true) (hown : y.cls = own) (hlv : lvp 0 lv0 = lv_args 0 As) (hlen : (lg_sl As).length ≤ maxL)
    (body : ∀ (p : Program) (e : Env) (s : State) (m : MethodId) (args : Array Value) (below : List Frame) (meth : Method) (c : Code), (y.name = meth.name) → Cx p args s m meth c g bytes maxL own ret N → V p l e (rmD d mc ms) s m args below meth c (MQ below (CtQ g r N' f') args s mc ms (gA g)) g maxL 0 0 N f 0 lv0 []) :
    Ct l g y (.code y bytes maxL ret) d As N f r N' f' mc ms := by
  refine Met.ofW (cc := bytes) (maxL := maxL) (ret := ret) hy rfl ?_
  intro p e s m args below meth c s₁ B hml hv
  obtain ⟨rfl, hsz, hP, hK⟩ := hv
  have hts := atoms_spec (ws := Cond.code y bytes maxL ret :: gT) B.pre
  have hf : s.vm.findClass own = some m.cls := by rw [← hown]; exact findClass_of_methodNamed B.named
  have hX : Cx p As.toArray s m meth c g bytes maxL own ret N := ⟨B.exec, B.bytes, hml, hf, fun w hw => hts w (List.mem_cons_of_mem _ hw), B.notSynchronized, B.returns, hK, hsz⟩
  have hl := lv_entry As (n := maxL) hlen
  rw [lg_entry_eq]
  exact body p e s m As.toArray below meth c ((name_of_methodNamed B.named B.method).1).symm hX s.heap [] _ hP va_S.rf (by rw [hlv]; exact hl)
end
section
section V4
variable {p : Program} {l : Launch} {e : Env} {R : Room} {s : State} {m : MethodId} {args : Array Value} {below : List Frame} {meth : Method} {c : Code} {Q : State → Prop}
variable {g : Ge} {cc : ByteArray} {nL : Nat} {own : String} {rt : Option FieldType} {N0 cs ss N : Nat} {f : Pic} {pc : Nat} {lv : List (Option Value)} {st : List Value} {o nB : Nat} {L L' : List va_E}
theorem v_cvB (X : Cx p args s m meth c g cc nL own rt N0) {y : MethodName} {bytes : ByteArray} {maxL idx d ci : Nat} {ret : Option FieldType} {As : List Value} {r : Option Value} {fs : List Value} {st0 st' : List Value} (hz : N = N0 + cs) {n : Nat} (hy : YV y bytes maxL ret n ci) (hml : Cond.methodLink own idx y ∈ gT) {M M' : List va_E} (j jr : Nat) (hC : Cb l g y (.code y bytes maxL ret) d (.ref (o + jr) :: As) N (o + j) M r M') (hB : BB g N o nB) (hjn : j + M.length ≤ nB) (hs : sbl L j M.length = M) (hLl : j + M.length ≤ L.length) (hM : M'.length = M.length) (hL : spl L j M' = L') (hrec : L[jr]? = some (.inr (ci, fs))) (hjr : jr < nB) (hst0 : st0 = As.reverse ++ .ref (o + jr) :: st) (hlen : As.length = n) (hcat : (st.map fun v => v.category).sum ≤ 8) (hR : d + 1 ≤ R.frames ∧ 8 + (maxL + 11) + 35 * d ≤ R.locals) (hf : cs + 0 ≤ R.cells ∧ ss + 0 ≤ R.slots) (dd : decode cc pc = .ok (.invokevirtual idx, 3)) (hst : r.toList ++ st = st') (kk : V p l e R s m args below meth c Q g nL cs ss N (ovr f o L') (pc + 3) lv st') : V p l e R s m args below meth c Q g nL cs ss N (ovr f o L) pc lv st0 := by
  have h1 := hC (ovr f o L) (hB.sub hjn)
  rw [ovr_foc hLl hs, ovr_spl (by rw [hM]; exact hLl), hL] at h1
  exact v_callV X hz hy hml h1 ⟨hB.lo, hB.hi hjr⟩ (ovr_at hrec) hst0 hlen hcat hR hf dd hst kk
theorem v_csB (X : Cx p args s m meth c g cc nL own rt N0) {y : MethodName} {bytes : ByteArray} {maxL idx d : Nat} {ret : Option FieldType} {As : List Value} {r : Option Value} {st0 st' : List Value} (hz : N = N0 + cs) {n : Nat} (hy : YS y bytes maxL ret n) (hml : Cond.methodLink own idx y ∈ gT) {M M' : List va_E} (j : Nat) (hC : Cb l g y (.code y bytes maxL ret) d As N (o + j) M r M') (hB : BB g N o nB) (hjn : j + M.length ≤ nB) (hs : sbl L j M.length = M) (hLl : j + M.length ≤ L.length) (hM : M'.length = M.length) (hL : spl L j M' = L') (hst0 : st0 = As.reverse ++ st) (hlen : As.length = n) (hcat : (st.map fun v => v.category).sum ≤ 8) (hR : d + 1 ≤ R.frames ∧ 8 + (maxL + 11) + 35 * d ≤ R.locals) (hf : cs + 0 ≤ R.cells ∧ ss + 0 ≤ R.slots) (dd : decode cc pc = .ok (.invokestatic idx, 3)) (hst : r.toList ++ st = st') (kk : V p l e R s m args below meth c Q g nL cs ss N (ovr f o L') (pc + 3) lv st') : V p l e R s m args below meth c Q g nL cs ss N (ovr f o L) pc lv st0 := by
  have h1 := hC (ovr f o L) (hB.sub hjn)
  rw [ovr_foc hLl hs, ovr_spl (by rw [hM]; exact hLl), hL] at h1
  exact v_callS X hz hy hml h1 hst0 hlen hcat hR hf dd hst kk
theorem v_cs (X : Cx p args s m meth c g cc nL own rt N0) {y : MethodName} {bytes : ByteArray} {maxL idx d : Nat} {ret : Option FieldType} {As : List Value} {r : Option Value} {st0 st' : List Value} (hz : N = N0 + cs) {n : Nat} (hy : YS y bytes maxL ret n) (hml : Cond.methodLink own idx y ∈ gT) (hC : Cs l g y (.code y bytes maxL ret) d As r) (hst0 : st0 = As.reverse ++ st) (hlen : As.length = n) (hcat : (st.map fun v => v.category).sum ≤ 8) (hR : d + 1 ≤ R.frames ∧ 8 + (maxL + 11) + 35 * d ≤ R.locals) (hf : cs + 0 ≤ R.cells ∧ ss + 0 ≤ R.slots) (dd : decode cc pc = .ok (.invokestatic idx, 3)) (hst : r.toList ++ st = st') (kk : V p l e R s m args below meth c Q g nL cs ss N f (pc + 3) lv st') : V p l e R s m args below meth c Q g nL cs ss N f pc lv st0 :=
  v_callS X hz hy hml (hC N f) hst0 hlen hcat hR hf dd hst kk
theorem v_csN (X : Cx p args s m meth c g cc nL own rt N0) {y : MethodName} {bytes : ByteArray} {maxL idx d : Nat} {host : String} {ret : Option FieldType} {As : List Value} {r : Option Value} {st0 st' : List Value} (hz : N = N0 + cs) {n : Nat} (hy : YS y bytes maxL ret n) (hml : (own, idx, y, host) ∈ gN) (hC : Cs l g y (.code y bytes maxL ret) d As r) (hst0 : st0 = As.reverse ++ st) (hlen : As.length = n) (hcat : (st.map fun v => v.category).sum ≤ 8) (hR : d + 1 ≤ R.frames ∧ 8 + (maxL + 11) + 35 * d ≤ R.locals) (hf : cs + 0 ≤ R.cells ∧ ss + 0 ≤ R.slots) (dd : decode cc pc = .ok (.invokestatic idx, 3)) (hst : r.toList ++ st = st') (kk : V p l e R s m args below meth c Q g nL cs ss N f (pc + 3) lv st') : V p l e R s m args below meth c Q g nL cs ss N f pc lv st0 :=
  v_callSN X hz hy hml (hC N f) hst0 hlen hcat hR hf dd hst kk
end V4
theorem cf0 : CF 0 RX0 TX0 5 tyX0 := ⟨rfl, m_ws_X0, tyX0_ok, nmX0, by decide +kernel⟩
theorem cf1 : CF 1 RX1 TX1 5 tyX1 := ⟨rfl, m_ws_X1, tyX1_ok, nmX1, by decide +kernel⟩
theorem cf2 : CF 2 RX2 TX2 9 tyX2 := ⟨rfl, m_ws_X2, tyX2_ok, nmX2, by decide +kernel⟩
theorem cf3 : CF 3 RX3 TX3 6 tyX3 := ⟨rfl, m_ws_X3, tyX3_ok, nmX3, by decide +kernel⟩
theorem cf4 : CF 4 RX4 TX4 7 tyX4 := ⟨rfl, m_ws_X4, tyX4_ok, nmX4, by decide +kernel⟩
theorem cf5 : CF 5 RX5 TX5 4 tyX5 := ⟨rfl, m_ws_X5, tyX5_ok, nmX5, by decide +kernel⟩
theorem cf6 : CF 6 RX6 TX6 2 tyX6 := ⟨rfl, m_ws_X6, tyX6_ok, nmX6, by decide +kernel⟩
theorem cf7 : CF 7 RX7 TX7 8 tyX7 := ⟨rfl, m_ws_X7, tyX7_ok, nmX7, by decide +kernel⟩
theorem cf8 : CF 8 RX8 TX8 12 tyX8 := ⟨rfl, m_ws_X8, tyX8_ok, nmX8, by decide +kernel⟩
theorem yc_J9_abs_0f7a4 : YC yJ9_abs_0f7a4 cJ9_abs_0f7a4 1 (some .int) 1 := ⟨m_co_J9_abs_0f7a4, m_ini_J9, by decide +kernel, by decide +kernel, by decide +kernel⟩
theorem yv_J9_abs_0f7a4 : YS yJ9_abs_0f7a4 cJ9_abs_0f7a4 1 (some .int) 1 := ⟨yc_J9_abs_0f7a4, m_st_J9_abs_0f7a4⟩
theorem yc_J9_floorMod_7cf53 : YC yJ9_floorMod_7cf53 cJ9_floorMod_7cf53 3 (some .int) 2 := ⟨m_co_J9_floorMod_7cf53, m_ini_J9, by decide +kernel, by decide +kernel, by decide +kernel⟩
theorem yv_J9_floorMod_7cf53 : YS yJ9_floorMod_7cf53 cJ9_floorMod_7cf53 3 (some .int) 2 := ⟨yc_J9_floorMod_7cf53, m_st_J9_floorMod_7cf53⟩
theorem yc_J9_max_7cf53 : YC yJ9_max_7cf53 cJ9_max_7cf53 2 (some .int) 2 := ⟨m_co_J9_max_7cf53, m_ini_J9, by decide +kernel, by decide +kernel, by decide +kernel⟩
theorem yv_J9_max_7cf53 : YS yJ9_max_7cf53 cJ9_max_7cf53 2 (some .int) 2 := ⟨yc_J9_max_7cf53, m_st_J9_max_7cf53⟩
theorem yc_J9_min_7cf53 : YC yJ9_min_7cf53 cJ9_min_7cf53 2 (some .int) 2 := ⟨m_co_J9_min_7cf53, m_ini_J9, by decide +kernel, by decide +kernel, by decide +kernel⟩
theorem yv_J9_min_7cf53 : YS yJ9_min_7cf53 cJ9_min_7cf53 2 (some .int) 2 := ⟨yc_J9_min_7cf53, m_st_J9_min_7cf53⟩
theorem yc_X0_accepts : YC yX0_accepts cX0_accepts 2 (some .boolean) 1 := ⟨m_co_X0_accepts, m_ini_X0, by decide +kernel, by decide +kernel, by decide +kernel⟩
theorem yv_X0_accepts : YV yX0_accepts cX0_accepts 2 (some .boolean) 1 0 := ⟨yc_X0_accepts, m_in_X0_accepts, _, _, _, rfl, m_se_X0_accepts⟩
theorem yc_X0_acceptsFrame : YC yX0_acceptsFrame cX0_acceptsFrame 2 (some .boolean) 1 := ⟨m_co_X0_acceptsFrame, m_ini_X0, by decide +kernel, by decide +kernel, by decide +kernel⟩
theorem yv_X0_acceptsFrame : YV yX0_acceptsFrame cX0_acceptsFrame 2 (some .boolean) 1 0 := ⟨yc_X0_acceptsFrame, m_in_X0_acceptsFrame, _, _, _, rfl, m_se_X0_acceptsFrame⟩
theorem yc_X0_acceptsLeft : YC yX0_acceptsLeft cX0_acceptsLeft 2 (some .boolean) 1 := ⟨m_co_X0_acceptsLeft, m_ini_X0, by decide +kernel, by decide +kernel, by decide +kernel⟩
theorem yv_X0_acceptsLeft : YV yX0_acceptsLeft cX0_acceptsLeft 2 (some .boolean) 1 0 := ⟨yc_X0_acceptsLeft, m_in_X0_acceptsLeft, _, _, _, rfl, m_se_X0_acceptsLeft⟩
theorem yc_X0_acceptsRight : YC yX0_acceptsRight cX0_acceptsRight 2 (some .boolean) 1 := ⟨m_co_X0_acceptsRight, m_ini_X0, by decide +kernel, by decide +kernel, by decide +kernel⟩
theorem yv_X0_acceptsRight : YV yX0_acceptsRight cX0_acceptsRight 2 (some .boolean) 1 0 := ⟨yc_X0_acceptsRight, m_in_X0_acceptsRight, _, _, _, rfl, m_se_X0_acceptsRight⟩
theorem yc_X0_goTo : YC yX0_goTo cX0_goTo 2 (some .boolean) 1 := ⟨m_co_X0_goTo, m_ini_X0, by decide +kernel, by decide +kernel, by decide +kernel⟩
theorem yv_X0_goTo : YV yX0_goTo cX0_goTo 2 (some .boolean) 1 0 := ⟨yc_X0_goTo, m_in_X0_goTo, _, _, _, rfl, m_se_X0_goTo⟩
theorem yc_X0_init : YC yX0_init cX0_init 1 none 0 := ⟨m_co_X0_init, m_ini_X0, by decide +kernel, by decide +kernel, by decide +kernel⟩
theorem yv_X0_init : YI yX0_init cX0_init 1 0 := ⟨yc_X0_init, m_in_X0_init, rfl⟩
theorem yc_X0_isBehindCard : YC yX0_isBehindCard cX0_isBehindCard 1 (some .boolean) 0 := ⟨m_co_X0_isBehindCard, m_ini_X0, by decide +kernel, by decide +kernel, by decide +kernel⟩
theorem yv_X0_isBehindCard : YV yX0_isBehindCard cX0_isBehindCard 1 (some .boolean) 0 0 := ⟨yc_X0_isBehindCard, m_in_X0_isBehindCard, _, _, _, rfl, m_se_X0_isBehindCard⟩
theorem yc_X0_start : YC yX0_start cX0_start 1 none 0 := ⟨m_co_X0_start, m_ini_X0, by decide +kernel, by decide +kernel, by decide +kernel⟩
theorem yv_X0_start : YV yX0_start cX0_start 1 none 0 0 := ⟨yc_X0_start, m_in_X0_start, _, _, _, rfl, m_se_X0_start⟩
theorem yc_X0_startNext : YC yX0_startNext cX0_startNext 1 (some .boolean) 0 := ⟨m_co_X0_startNext, m_ini_X0, by decide +kernel, by decide +kernel, by decide +kernel⟩
theorem yv_X0_startNext : YV yX0_startNext cX0_startNext 1 (some .boolean) 0 0 := ⟨yc_X0_startNext, m_in_X0_startNext, _, _, _, rfl, m_se_X0_startNext⟩
theorem yc_X1_append : YC yX1_append cX1_append 4 none 3 := ⟨m_co_X1_append, m_ini_X1, by decide +kernel, by decide +kernel, by decide +kernel⟩
theorem yv_X1_append : YV yX1_append cX1_append 4 none 3 1 := ⟨yc_X1_append, m_in_X1_append, _, _, _, rfl, m_se_X1_append⟩
theorem yc_X1_boxOf : YC yX1_boxOf cX1_boxOf 3 (some .int) 2 := ⟨m_co_X1_boxOf, m_ini_X1, by decide +kernel, by decide +kernel, by decide +kernel⟩
theorem yv_X1_boxOf : YV yX1_boxOf cX1_boxOf 3 (some .int) 2 1 := ⟨yc_X1_boxOf, m_in_X1_boxOf, _, _, _, rfl, m_se_X1_boxOf⟩
theorem yc_X1_copyFrom : YC yX1_copyFrom cX1_copyFrom 2 none 1 := ⟨m_co_X1_copyFrom, m_ini_X1, by decide +kernel, by decide +kernel, by decide +kernel⟩
theorem yv_X1_copyFrom : YV yX1_copyFrom cX1_copyFrom 2 none 1 1 := ⟨yc_X1_copyFrom, m_in_X1_copyFrom, _, _, _, rfl, m_se_X1_copyFrom⟩
theorem yc_X1_framesOf : YC yX1_framesOf cX1_framesOf 2 (some .int) 1 := ⟨m_co_X1_framesOf, m_ini_X1, by decide +kernel, by decide +kernel, by decide +kernel⟩
theorem yv_X1_framesOf : YV yX1_framesOf cX1_framesOf 2 (some .int) 1 1 := ⟨yc_X1_framesOf, m_in_X1_framesOf, _, _, _, rfl, m_se_X1_framesOf⟩
theorem yc_X1_goOn : YC yX1_goOn cX1_goOn 1 none 0 := ⟨m_co_X1_goOn, m_ini_X1, by decide +kernel, by decide +kernel, by decide +kernel⟩
theorem yv_X1_goOn : YV yX1_goOn cX1_goOn 1 none 0 1 := ⟨yc_X1_goOn, m_in_X1_goOn, _, _, _, rfl, m_se_X1_goOn⟩
theorem yc_X1_has : YC yX1_has cX1_has 2 (some .boolean) 1 := ⟨m_co_X1_has, m_ini_X1, by decide +kernel, by decide +kernel, by decide +kernel⟩
theorem yv_X1_has : YV yX1_has cX1_has 2 (some .boolean) 1 1 := ⟨yc_X1_has, m_in_X1_has, _, _, _, rfl, m_se_X1_has⟩
theorem yc_X1_init : YC yX1_init cX1_init 1 none 0 := ⟨m_co_X1_init, m_ini_X1, by decide +kernel, by decide +kernel, by decide +kernel⟩
theorem yv_X1_init : YI yX1_init cX1_init 1 0 := ⟨yc_X1_init, m_in_X1_init, rfl⟩
theorem yc_X1_remove : YC yX1_remove cX1_remove 3 none 1 := ⟨m_co_X1_remove, m_ini_X1, by decide +kernel, by decide +kernel, by decide +kernel⟩
theorem yv_X1_remove : YV yX1_remove cX1_remove 3 none 1 1 := ⟨yc_X1_remove, m_in_X1_remove, _, _, _, rfl, m_se_X1_remove⟩
theorem yc_X1_startAgainBehindLast : YC yX1_startAgainBehindLast cX1_startAgainBehindLast 1 none 0 := ⟨m_co_X1_startAgainBehindLast, m_ini_X1, by decide +kernel, by decide +kernel, by decide +kernel⟩
theorem yv_X1_startAgainBehindLast : YV yX1_startAgainBehindLast cX1_startAgainBehindLast 1 none 0 1 := ⟨yc_X1_startAgainBehindLast, m_in_X1_startAgainBehindLast, _, _, _, rfl, m_se_X1_startAgainBehindLast⟩
theorem yc_X2_addRowOf : YC yX2_addRowOf cX2_addRowOf 3 none 1 := ⟨m_co_X2_addRowOf, m_ini_X2, by decide +kernel, by decide +kernel, by decide +kernel⟩
theorem yv_X2_addRowOf : YV yX2_addRowOf cX2_addRowOf 3 none 1 2 := ⟨yc_X2_addRowOf, m_in_X2_addRowOf, _, _, _, rfl, m_se_X2_addRowOf⟩
theorem yc_X2_colourOf : YC yX2_colourOf cX2_colourOf 2 (some .int) 1 := ⟨m_co_X2_colourOf, m_ini_X2, by decide +kernel, by decide +kernel, by decide +kernel⟩
theorem yv_X2_colourOf : YV yX2_colourOf cX2_colourOf 2 (some .int) 1 2 := ⟨yc_X2_colourOf, m_in_X2_colourOf, _, _, _, rfl, m_se_X2_colourOf⟩
theorem yc_X2_copyFrom : YC yX2_copyFrom cX2_copyFrom 2 none 1 := ⟨m_co_X2_copyFrom, m_ini_X2, by decide +kernel, by decide +kernel, by decide +kernel⟩
theorem yv_X2_copyFrom : YV yX2_copyFrom cX2_copyFrom 2 none 1 2 := ⟨yc_X2_copyFrom, m_in_X2_copyFrom, _, _, _, rfl, m_se_X2_copyFrom⟩
theorem yc_X2_has : YC yX2_has cX2_has 2 (some .boolean) 1 := ⟨m_co_X2_has, m_ini_X2, by decide +kernel, by decide +kernel, by decide +kernel⟩
theorem yv_X2_has : YV yX2_has cX2_has 2 (some .boolean) 1 2 := ⟨yc_X2_has, m_in_X2_has, _, _, _, rfl, m_se_X2_has⟩
theorem yc_X2_init : YC yX2_init cX2_init 1 none 0 := ⟨m_co_X2_init, m_ini_X2, by decide +kernel, by decide +kernel, by decide +kernel⟩
theorem yv_X2_init : YI yX2_init cX2_init 1 0 := ⟨yc_X2_init, m_in_X2_init, rfl⟩
theorem yc_X2_isLifted : YC yX2_isLifted cX2_isLifted 3 (some .boolean) 2 := ⟨m_co_X2_isLifted, m_ini_X2, by decide +kernel, by decide +kernel, by decide +kernel⟩
theorem yv_X2_isLifted : YV yX2_isLifted cX2_isLifted 3 (some .boolean) 2 2 := ⟨yc_X2_isLifted, m_in_X2_isLifted, _, _, _, rfl, m_se_X2_isLifted⟩
theorem yc_X2_longestFloatOf : YC yX2_longestFloatOf cX2_longestFloatOf 6 (some .int) 1 := ⟨m_co_X2_longestFloatOf, m_ini_X2, by decide +kernel, by decide +kernel, by decide +kernel⟩
theorem yv_X2_longestFloatOf : YV yX2_longestFloatOf cX2_longestFloatOf 6 (some .int) 1 2 := ⟨yc_X2_longestFloatOf, m_in_X2_longestFloatOf, _, _, _, rfl, m_se_X2_longestFloatOf⟩
theorem yc_X2_slotOf : YC yX2_slotOf cX2_slotOf 2 (some .int) 1 := ⟨m_co_X2_slotOf, m_ini_X2, by decide +kernel, by decide +kernel, by decide +kernel⟩
theorem yv_X2_slotOf : YV yX2_slotOf cX2_slotOf 2 (some .int) 1 2 := ⟨yc_X2_slotOf, m_in_X2_slotOf, _, _, _, rfl, m_se_X2_slotOf⟩
theorem yc_X2_takeRowBack : YC yX2_takeRowBack cX2_takeRowBack 3 none 1 := ⟨m_co_X2_takeRowBack, m_ini_X2, by decide +kernel, by decide +kernel, by decide +kernel⟩
theorem yv_X2_takeRowBack : YV yX2_takeRowBack cX2_takeRowBack 3 none 1 2 := ⟨yc_X2_takeRowBack, m_in_X2_takeRowBack, _, _, _, rfl, m_se_X2_takeRowBack⟩
theorem yc_X3_copyFrom : YC yX3_copyFrom cX3_copyFrom 2 none 1 := ⟨m_co_X3_copyFrom, m_ini_X3, by decide +kernel, by decide +kernel, by decide +kernel⟩
theorem yv_X3_copyFrom : YV yX3_copyFrom cX3_copyFrom 2 none 1 3 := ⟨yc_X3_copyFrom, m_in_X3_copyFrom, _, _, _, rfl, m_se_X3_copyFrom⟩
theorem yc_X3_fly : YC yX3_fly cX3_fly 4 none 2 := ⟨m_co_X3_fly, m_ini_X3, by decide +kernel, by decide +kernel, by decide +kernel⟩
theorem yv_X3_fly : YV yX3_fly cX3_fly 4 none 2 3 := ⟨yc_X3_fly, m_in_X3_fly, _, _, _, rfl, m_se_X3_fly⟩
theorem yc_X3_flyingShuttle : YC yX3_flyingShuttle cX3_flyingShuttle 2 (some .int) 0 := ⟨m_co_X3_flyingShuttle, m_ini_X3, by decide +kernel, by decide +kernel, by decide +kernel⟩
theorem yv_X3_flyingShuttle : YV yX3_flyingShuttle cX3_flyingShuttle 2 (some .int) 0 3 := ⟨yc_X3_flyingShuttle, m_in_X3_flyingShuttle, _, _, _, rfl, m_se_X3_flyingShuttle⟩
theorem yc_X3_frames : YC yX3_frames cX3_frames 1 (some .int) 0 := ⟨m_co_X3_frames, m_ini_X3, by decide +kernel, by decide +kernel, by decide +kernel⟩
theorem yv_X3_frames : YV yX3_frames cX3_frames 1 (some .int) 0 3 := ⟨yc_X3_frames, m_in_X3_frames, _, _, _, rfl, m_se_X3_frames⟩
theorem yc_X3_init : YC yX3_init cX3_init 1 none 0 := ⟨m_co_X3_init, m_ini_X3, by decide +kernel, by decide +kernel, by decide +kernel⟩
theorem yv_X3_init : YI yX3_init cX3_init 1 0 := ⟨yc_X3_init, m_in_X3_init, rfl⟩
theorem yc_X3_makePick : YC yX3_makePick cX3_makePick 2 none 0 := ⟨m_co_X3_makePick, m_ini_X3, by decide +kernel, by decide +kernel, by decide +kernel⟩
theorem yv_X3_makePick : YV yX3_makePick cX3_makePick 2 none 0 3 := ⟨yc_X3_makePick, m_in_X3_makePick, _, _, _, rfl, m_se_X3_makePick⟩
theorem yc_X3_moveRaces : YC yX3_moveRaces cX3_moveRaces 3 none 2 := ⟨m_co_X3_moveRaces, m_ini_X3, by decide +kernel, by decide +kernel, by decide +kernel⟩
theorem yv_X3_moveRaces : YV yX3_moveRaces cX3_moveRaces 3 none 2 3 := ⟨yc_X3_moveRaces, m_in_X3_moveRaces, _, _, _, rfl, m_se_X3_moveRaces⟩
theorem yc_X3_numberTold : YC yX3_numberTold cX3_numberTold 2 (some .int) 1 := ⟨m_co_X3_numberTold, m_ini_X3, by decide +kernel, by decide +kernel, by decide +kernel⟩
theorem yv_X3_numberTold : YV yX3_numberTold cX3_numberTold 2 (some .int) 1 3 := ⟨yc_X3_numberTold, m_in_X3_numberTold, _, _, _, rfl, m_se_X3_numberTold⟩
theorem yc_X3_reasonOfCardOrShuttle : YC yX3_reasonOfCardOrShuttle cX3_reasonOfCardOrShuttle 3 (some .int) 0 := ⟨m_co_X3_reasonOfCardOrShuttle, m_ini_X3, by decide +kernel, by decide +kernel, by decide +kernel⟩
theorem yv_X3_reasonOfCardOrShuttle : YV yX3_reasonOfCardOrShuttle cX3_reasonOfCardOrShuttle 3 (some .int) 0 3 := ⟨yc_X3_reasonOfCardOrShuttle, m_in_X3_reasonOfCardOrShuttle, _, _, _, rfl, m_se_X3_reasonOfCardOrShuttle⟩
theorem yc_X3_reasonToStop : YC yX3_reasonToStop cX3_reasonToStop 1 (some .int) 0 := ⟨m_co_X3_reasonToStop, m_ini_X3, by decide +kernel, by decide +kernel, by decide +kernel⟩
theorem yv_X3_reasonToStop : YV yX3_reasonToStop cX3_reasonToStop 1 (some .int) 0 3 := ⟨yc_X3_reasonToStop, m_in_X3_reasonToStop, _, _, _, rfl, m_se_X3_reasonToStop⟩
theorem yc_X3_shuttleOn : YC yX3_shuttleOn cX3_shuttleOn 2 (some .int) 1 := ⟨m_co_X3_shuttleOn, m_ini_X3, by decide +kernel, by decide +kernel, by decide +kernel⟩
theorem yv_X3_shuttleOn : YV yX3_shuttleOn cX3_shuttleOn 2 (some .int) 1 3 := ⟨yc_X3_shuttleOn, m_in_X3_shuttleOn, _, _, _, rfl, m_se_X3_shuttleOn⟩
theorem yc_X3_sideTooFar : YC yX3_sideTooFar cX3_sideTooFar 3 (some .int) 0 := ⟨m_co_X3_sideTooFar, m_ini_X3, by decide +kernel, by decide +kernel, by decide +kernel⟩
theorem yv_X3_sideTooFar : YV yX3_sideTooFar cX3_sideTooFar 3 (some .int) 0 3 := ⟨yc_X3_sideTooFar, m_in_X3_sideTooFar, _, _, _, rfl, m_se_X3_sideTooFar⟩
theorem yc_X4_copyFrom : YC yX4_copyFrom cX4_copyFrom 2 none 1 := ⟨m_co_X4_copyFrom, m_ini_X4, by decide +kernel, by decide +kernel, by decide +kernel⟩
theorem yv_X4_copyFrom : YV yX4_copyFrom cX4_copyFrom 2 none 1 4 := ⟨yc_X4_copyFrom, m_in_X4_copyFrom, _, _, _, rfl, m_se_X4_copyFrom⟩
theorem yc_X4_init : YC yX4_init cX4_init 1 none 0 := ⟨m_co_X4_init, m_ini_X4, by decide +kernel, by decide +kernel, by decide +kernel⟩
theorem yv_X4_init : YI yX4_init cX4_init 1 0 := ⟨yc_X4_init, m_in_X4_init, rfl⟩
theorem yc_X4_makePick : YC yX4_makePick cX4_makePick 1 none 0 := ⟨m_co_X4_makePick, m_ini_X4, by decide +kernel, by decide +kernel, by decide +kernel⟩
theorem yv_X4_makePick : YV yX4_makePick cX4_makePick 1 none 0 4 := ⟨yc_X4_makePick, m_in_X4_makePick, _, _, _, rfl, m_se_X4_makePick⟩
theorem yc_X4_noteStop : YC yX4_noteStop cX4_noteStop 2 none 1 := ⟨m_co_X4_noteStop, m_ini_X4, by decide +kernel, by decide +kernel, by decide +kernel⟩
theorem yv_X4_noteStop : YV yX4_noteStop cX4_noteStop 2 none 1 4 := ⟨yc_X4_noteStop, m_in_X4_noteStop, _, _, _, rfl, m_se_X4_noteStop⟩
theorem yc_X4_takePickBack : YC yX4_takePickBack cX4_takePickBack 1 none 0 := ⟨m_co_X4_takePickBack, m_ini_X4, by decide +kernel, by decide +kernel, by decide +kernel⟩
theorem yv_X4_takePickBack : YV yX4_takePickBack cX4_takePickBack 1 none 0 4 := ⟨yc_X4_takePickBack, m_in_X4_takePickBack, _, _, _, rfl, m_se_X4_takePickBack⟩
theorem yc_X5_addYarn : YC yX5_addYarn cX5_addYarn 3 none 2 := ⟨m_co_X5_addYarn, m_ini_X5, by decide +kernel, by decide +kernel, by decide +kernel⟩
theorem yv_X5_addYarn : YV yX5_addYarn cX5_addYarn 3 none 2 5 := ⟨yc_X5_addYarn, m_in_X5_addYarn, _, _, _, rfl, m_se_X5_addYarn⟩
theorem yc_X5_colourOf : YC yX5_colourOf cX5_colourOf 2 (some .int) 1 := ⟨m_co_X5_colourOf, m_ini_X5, by decide +kernel, by decide +kernel, by decide +kernel⟩
theorem yv_X5_colourOf : YV yX5_colourOf cX5_colourOf 2 (some .int) 1 5 := ⟨yc_X5_colourOf, m_in_X5_colourOf, _, _, _, rfl, m_se_X5_colourOf⟩
theorem yc_X5_copyFrom : YC yX5_copyFrom cX5_copyFrom 2 none 1 := ⟨m_co_X5_copyFrom, m_ini_X5, by decide +kernel, by decide +kernel, by decide +kernel⟩
theorem yv_X5_copyFrom : YV yX5_copyFrom cX5_copyFrom 2 none 1 5 := ⟨yc_X5_copyFrom, m_in_X5_copyFrom, _, _, _, rfl, m_se_X5_copyFrom⟩
theorem yc_X5_findIn : YC yX5_findIn cX5_findIn 4 (some .int) 2 := ⟨m_co_X5_findIn, m_ini_X5, by decide +kernel, by decide +kernel, by decide +kernel⟩
theorem yv_X5_findIn : YV yX5_findIn cX5_findIn 4 (some .int) 2 5 := ⟨yc_X5_findIn, m_in_X5_findIn, _, _, _, rfl, m_se_X5_findIn⟩
theorem yc_X5_hasYarn : YC yX5_hasYarn cX5_hasYarn 2 (some .boolean) 1 := ⟨m_co_X5_hasYarn, m_ini_X5, by decide +kernel, by decide +kernel, by decide +kernel⟩
theorem yv_X5_hasYarn : YV yX5_hasYarn cX5_hasYarn 2 (some .boolean) 1 5 := ⟨yc_X5_hasYarn, m_in_X5_hasYarn, _, _, _, rfl, m_se_X5_hasYarn⟩
theorem yc_X5_init : YC yX5_init cX5_init 2 none 0 := ⟨m_co_X5_init, m_ini_X5, by decide +kernel, by decide +kernel, by decide +kernel⟩
theorem yv_X5_init : YI yX5_init cX5_init 2 0 := ⟨yc_X5_init, m_in_X5_init, rfl⟩
theorem yc_X5_isInDrawer : YC yX5_isInDrawer cX5_isInDrawer 2 (some .boolean) 1 := ⟨m_co_X5_isInDrawer, m_ini_X5, by decide +kernel, by decide +kernel, by decide +kernel⟩
theorem yv_X5_isInDrawer : YV yX5_isInDrawer cX5_isInDrawer 2 (some .boolean) 1 5 := ⟨yc_X5_isInDrawer, m_in_X5_isInDrawer, _, _, _, rfl, m_se_X5_isInDrawer⟩
theorem yc_X5_isOnLeft : YC yX5_isOnLeft cX5_isOnLeft 2 (some .boolean) 1 := ⟨m_co_X5_isOnLeft, m_ini_X5, by decide +kernel, by decide +kernel, by decide +kernel⟩
theorem yv_X5_isOnLeft : YV yX5_isOnLeft cX5_isOnLeft 2 (some .boolean) 1 5 := ⟨yc_X5_isOnLeft, m_in_X5_isOnLeft, _, _, _, rfl, m_se_X5_isOnLeft⟩
theorem yc_X5_numberInBoxes : YC yX5_numberInBoxes cX5_numberInBoxes 3 (some .int) 0 := ⟨m_co_X5_numberInBoxes, m_ini_X5, by decide +kernel, by decide +kernel, by decide +kernel⟩
theorem yv_X5_numberInBoxes : YV yX5_numberInBoxes cX5_numberInBoxes 3 (some .int) 0 5 := ⟨yc_X5_numberInBoxes, m_in_X5_numberInBoxes, _, _, _, rfl, m_se_X5_numberInBoxes⟩
theorem yc_X5_place : YC yX5_place cX5_place 4 none 3 := ⟨m_co_X5_place, m_ini_X5, by decide +kernel, by decide +kernel, by decide +kernel⟩
theorem yv_X5_place : YV yX5_place cX5_place 4 none 3 5 := ⟨yc_X5_place, m_in_X5_place, _, _, _, rfl, m_se_X5_place⟩
theorem yc_X5_standAs : YC yX5_standAs cX5_standAs 3 (some .boolean) 1 := ⟨m_co_X5_standAs, m_ini_X5, by decide +kernel, by decide +kernel, by decide +kernel⟩
theorem yv_X5_standAs : YV yX5_standAs cX5_standAs 3 (some .boolean) 1 5 := ⟨yc_X5_standAs, m_in_X5_standAs, _, _, _, rfl, m_se_X5_standAs⟩
theorem yc_X6_copyFrom : YC yX6_copyFrom cX6_copyFrom 2 none 1 := ⟨m_co_X6_copyFrom, m_ini_X6, by decide +kernel, by decide +kernel, by decide +kernel⟩
theorem yv_X6_copyFrom : YV yX6_copyFrom cX6_copyFrom 2 none 1 6 := ⟨yc_X6_copyFrom, m_in_X6_copyFrom, _, _, _, rfl, m_se_X6_copyFrom⟩
theorem yc_X6_firstBroken : YC yX6_firstBroken cX6_firstBroken 2 (some .int) 0 := ⟨m_co_X6_firstBroken, m_ini_X6, by decide +kernel, by decide +kernel, by decide +kernel⟩
theorem yv_X6_firstBroken : YV yX6_firstBroken cX6_firstBroken 2 (some .int) 0 6 := ⟨yc_X6_firstBroken, m_in_X6_firstBroken, _, _, _, rfl, m_se_X6_firstBroken⟩
theorem yc_X6_inFrames : YC yX6_inFrames cX6_inFrames 4 (some .int) 1 := ⟨m_co_X6_inFrames, m_ini_X6, by decide +kernel, by decide +kernel, by decide +kernel⟩
theorem yv_X6_inFrames : YV yX6_inFrames cX6_inFrames 4 (some .int) 1 6 := ⟨yc_X6_inFrames, m_in_X6_inFrames, _, _, _, rfl, m_se_X6_inFrames⟩
theorem yc_X6_init : YC yX6_init cX6_init 2 none 0 := ⟨m_co_X6_init, m_ini_X6, by decide +kernel, by decide +kernel, by decide +kernel⟩
theorem yv_X6_init : YI yX6_init cX6_init 2 0 := ⟨yc_X6_init, m_in_X6_init, rfl⟩
theorem yc_X6_wearOut : YC yX6_wearOut cX6_wearOut 3 none 1 := ⟨m_co_X6_wearOut, m_ini_X6, by decide +kernel, by decide +kernel, by decide +kernel⟩
theorem yv_X6_wearOut : YV yX6_wearOut cX6_wearOut 3 none 1 6 := ⟨yc_X6_wearOut, m_in_X6_wearOut, _, _, _, rfl, m_se_X6_wearOut⟩
theorem yc_X7_addCard : YC yX7_addCard cX7_addCard 5 (some .int) 3 := ⟨m_co_X7_addCard, m_ini_X7, by decide +kernel, by decide +kernel, by decide +kernel⟩
theorem yv_X7_addCard : YV yX7_addCard cX7_addCard 5 (some .int) 3 7 := ⟨yc_X7_addCard, m_in_X7_addCard, _, _, _, rfl, m_se_X7_addCard⟩
theorem yc_X7_card : YC yX7_card cX7_card 4 (some .int) 2 := ⟨m_co_X7_card, m_ini_X7, by decide +kernel, by decide +kernel, by decide +kernel⟩
theorem yv_X7_card : YV yX7_card cX7_card 4 (some .int) 2 7 := ⟨yc_X7_card, m_in_X7_card, _, _, _, rfl, m_se_X7_card⟩
theorem yc_X7_cardsInText : YC yX7_cardsInText cX7_cardsInText 3 (some .int) 0 := ⟨m_co_X7_cardsInText, m_ini_X7, by decide +kernel, by decide +kernel, by decide +kernel⟩
theorem yv_X7_cardsInText : YV yX7_cardsInText cX7_cardsInText 3 (some .int) 0 7 := ⟨yc_X7_cardsInText, m_in_X7_cardsInText, _, _, _, rfl, m_se_X7_cardsInText⟩
theorem yc_X7_clearText : YC yX7_clearText cX7_clearText 2 (some .int) 0 := ⟨m_co_X7_clearText, m_ini_X7, by decide +kernel, by decide +kernel, by decide +kernel⟩
theorem yv_X7_clearText : YV yX7_clearText cX7_clearText 2 (some .int) 0 7 := ⟨yc_X7_clearText, m_in_X7_clearText, _, _, _, rfl, m_se_X7_clearText⟩
theorem yc_X7_cloth : YC yX7_cloth cX7_cloth 3 (some .int) 2 := ⟨m_co_X7_cloth, m_ini_X7, by decide +kernel, by decide +kernel, by decide +kernel⟩
theorem yv_X7_cloth : YV yX7_cloth cX7_cloth 3 (some .int) 2 7 := ⟨yc_X7_cloth, m_in_X7_cloth, _, _, _, rfl, m_se_X7_cloth⟩
theorem yc_X7_contains : YC yX7_contains cX7_contains 2 (some .boolean) 2 := ⟨m_co_X7_contains, m_ini_X7, by decide +kernel, by decide +kernel, by decide +kernel⟩
theorem yv_X7_contains : YS yX7_contains cX7_contains 2 (some .boolean) 2 := ⟨yc_X7_contains, m_st_X7_contains⟩
theorem yc_X7_count : YC yX7_count cX7_count 3 (some .int) 1 := ⟨m_co_X7_count, m_ini_X7, by decide +kernel, by decide +kernel, by decide +kernel⟩
theorem yv_X7_count : YV yX7_count cX7_count 3 (some .int) 1 7 := ⟨yc_X7_count, m_in_X7_count, _, _, _, rfl, m_se_X7_count⟩
theorem yc_X7_digest : YC yX7_digest cX7_digest 4 (some .long) 0 := ⟨m_co_X7_digest, m_ini_X7, by decide +kernel, by decide +kernel, by decide +kernel⟩
theorem yv_X7_digest : YV yX7_digest cX7_digest 4 (some .long) 0 7 := ⟨yc_X7_digest, m_in_X7_digest, _, _, _, rfl, m_se_X7_digest⟩
theorem yc_X7_draw : YC yX7_draw cX7_draw 4 (some .int) 2 := ⟨m_co_X7_draw, m_ini_X7, by decide +kernel, by decide +kernel, by decide +kernel⟩
theorem yv_X7_draw : YV yX7_draw cX7_draw 4 (some .int) 2 7 := ⟨yc_X7_draw, m_in_X7_draw, _, _, _, rfl, m_se_X7_draw⟩
theorem yc_X7_firstEmpty : YC yX7_firstEmpty cX7_firstEmpty 3 (some .int) 0 := ⟨m_co_X7_firstEmpty, m_ini_X7, by decide +kernel, by decide +kernel, by decide +kernel⟩
theorem yv_X7_firstEmpty : YV yX7_firstEmpty cX7_firstEmpty 3 (some .int) 0 7 := ⟨yc_X7_firstEmpty, m_in_X7_firstEmpty, _, _, _, rfl, m_se_X7_firstEmpty⟩
theorem yc_X7_hashCards : YC yX7_hashCards cX7_hashCards 7 (some .long) 1 := ⟨m_co_X7_hashCards, m_ini_X7, by decide +kernel, by decide +kernel, by decide +kernel⟩
theorem yv_X7_hashCards : YV yX7_hashCards cX7_hashCards 7 (some .long) 1 7 := ⟨yc_X7_hashCards, m_in_X7_hashCards, _, _, _, rfl, m_se_X7_hashCards⟩
theorem yc_X7_hashCloth : YC yX7_hashCloth cX7_hashCloth 7 (some .long) 1 := ⟨m_co_X7_hashCloth, m_ini_X7, by decide +kernel, by decide +kernel, by decide +kernel⟩
theorem yv_X7_hashCloth : YV yX7_hashCloth cX7_hashCloth 7 (some .long) 1 7 := ⟨yc_X7_hashCloth, m_in_X7_hashCloth, _, _, _, rfl, m_se_X7_hashCloth⟩
theorem yc_X7_hashShuttles : YC yX7_hashShuttles cX7_hashShuttles 7 (some .long) 1 := ⟨m_co_X7_hashShuttles, m_ini_X7, by decide +kernel, by decide +kernel, by decide +kernel⟩
theorem yv_X7_hashShuttles : YV yX7_hashShuttles cX7_hashShuttles 7 (some .long) 1 7 := ⟨yc_X7_hashShuttles, m_in_X7_hashShuttles, _, _, _, rfl, m_se_X7_hashShuttles⟩
theorem yc_X7_hashThreads : YC yX7_hashThreads cX7_hashThreads 7 (some .long) 1 := ⟨m_co_X7_hashThreads, m_ini_X7, by decide +kernel, by decide +kernel, by decide +kernel⟩
theorem yv_X7_hashThreads : YV yX7_hashThreads cX7_hashThreads 7 (some .long) 1 7 := ⟨yc_X7_hashThreads, m_in_X7_hashThreads, _, _, _, rfl, m_se_X7_hashThreads⟩
theorem yc_X7_inBox : YC yX7_inBox cX7_inBox 3 (some .int) 2 := ⟨m_co_X7_inBox, m_ini_X7, by decide +kernel, by decide +kernel, by decide +kernel⟩
theorem yv_X7_inBox : YV yX7_inBox cX7_inBox 3 (some .int) 2 7 := ⟨yc_X7_inBox, m_in_X7_inBox, _, _, _, rfl, m_se_X7_inBox⟩
theorem yc_X7_init : YC yX7_init cX7_init 2 none 0 := ⟨m_co_X7_init, m_ini_X7, by decide +kernel, by decide +kernel, by decide +kernel⟩
theorem yv_X7_init : YI yX7_init cX7_init 2 0 := ⟨yc_X7_init, m_in_X7_init, rfl⟩
theorem yc_X7_isBox : YC yX7_isBox cX7_isBox 2 (some .boolean) 2 := ⟨m_co_X7_isBox, m_ini_X7, by decide +kernel, by decide +kernel, by decide +kernel⟩
theorem yv_X7_isBox : YS yX7_isBox cX7_isBox 2 (some .boolean) 2 := ⟨yc_X7_isBox, m_st_X7_isBox⟩
theorem yc_X7_isShuttle : YC yX7_isShuttle cX7_isShuttle 1 (some .boolean) 1 := ⟨m_co_X7_isShuttle, m_ini_X7, by decide +kernel, by decide +kernel, by decide +kernel⟩
theorem yv_X7_isShuttle : YS yX7_isShuttle cX7_isShuttle 1 (some .boolean) 1 := ⟨yc_X7_isShuttle, m_st_X7_isShuttle⟩
theorem yc_X7_isThread : YC yX7_isThread cX7_isThread 1 (some .boolean) 1 := ⟨m_co_X7_isThread, m_ini_X7, by decide +kernel, by decide +kernel, by decide +kernel⟩
theorem yv_X7_isThread : YS yX7_isThread cX7_isThread 1 (some .boolean) 1 := ⟨yc_X7_isThread, m_st_X7_isThread⟩
theorem yc_X7_isWithin : YC yX7_isWithin cX7_isWithin 3 (some .boolean) 3 := ⟨m_co_X7_isWithin, m_ini_X7, by decide +kernel, by decide +kernel, by decide +kernel⟩
theorem yv_X7_isWithin : YS yX7_isWithin cX7_isWithin 3 (some .boolean) 3 := ⟨yc_X7_isWithin, m_st_X7_isWithin⟩
theorem yc_X7_longestFloat : YC yX7_longestFloat cX7_longestFloat 2 (some .int) 1 := ⟨m_co_X7_longestFloat, m_ini_X7, by decide +kernel, by decide +kernel, by decide +kernel⟩
theorem yv_X7_longestFloat : YV yX7_longestFloat cX7_longestFloat 2 (some .int) 1 7 := ⟨yc_X7_longestFloat, m_in_X7_longestFloat, _, _, _, rfl, m_se_X7_longestFloat⟩
theorem yc_X7_mend : YC yX7_mend cX7_mend 4 (some .int) 2 := ⟨m_co_X7_mend, m_ini_X7, by decide +kernel, by decide +kernel, by decide +kernel⟩
theorem yv_X7_mend : YV yX7_mend cX7_mend 4 (some .int) 2 7 := ⟨yc_X7_mend, m_in_X7_mend, _, _, _, rfl, m_se_X7_mend⟩
theorem yc_X7_moveBoxes : YC yX7_moveBoxes cX7_moveBoxes 4 (some .int) 2 := ⟨m_co_X7_moveBoxes, m_ini_X7, by decide +kernel, by decide +kernel, by decide +kernel⟩
theorem yv_X7_moveBoxes : YV yX7_moveBoxes cX7_moveBoxes 4 (some .int) 2 7 := ⟨yc_X7_moveBoxes, m_in_X7_moveBoxes, _, _, _, rfl, m_se_X7_moveBoxes⟩
theorem yc_X7_picksLeft : YC yX7_picksLeft cX7_picksLeft 2 (some .int) 0 := ⟨m_co_X7_picksLeft, m_ini_X7, by decide +kernel, by decide +kernel, by decide +kernel⟩
theorem yv_X7_picksLeft : YV yX7_picksLeft cX7_picksLeft 2 (some .int) 0 7 := ⟨yc_X7_picksLeft, m_in_X7_picksLeft, _, _, _, rfl, m_se_X7_picksLeft⟩
theorem yc_X7_putIn : YC yX7_putIn cX7_putIn 5 (some .int) 3 := ⟨m_co_X7_putIn, m_ini_X7, by decide +kernel, by decide +kernel, by decide +kernel⟩
theorem yv_X7_putIn : YV yX7_putIn cX7_putIn 5 (some .int) 3 7 := ⟨yc_X7_putIn, m_in_X7_putIn, _, _, _, rfl, m_se_X7_putIn⟩
theorem yc_X7_readCards : YC yX7_readCards cX7_readCards 3 (some .int) 0 := ⟨m_co_X7_readCards, m_ini_X7, by decide +kernel, by decide +kernel, by decide +kernel⟩
theorem yv_X7_readCards : YV yX7_readCards cX7_readCards 3 (some .int) 0 7 := ⟨yc_X7_readCards, m_in_X7_readCards, _, _, _, rfl, m_se_X7_readCards⟩
theorem yc_X7_removeCard : YC yX7_removeCard cX7_removeCard 3 (some .int) 1 := ⟨m_co_X7_removeCard, m_ini_X7, by decide +kernel, by decide +kernel, by decide +kernel⟩
theorem yv_X7_removeCard : YV yX7_removeCard cX7_removeCard 3 (some .int) 1 7 := ⟨yc_X7_removeCard, m_in_X7_removeCard, _, _, _, rfl, m_se_X7_removeCard⟩
theorem yc_X7_repeats : YC yX7_repeats cX7_repeats 3 (some .int) 0 := ⟨m_co_X7_repeats, m_ini_X7, by decide +kernel, by decide +kernel, by decide +kernel⟩
theorem yv_X7_repeats : YV yX7_repeats cX7_repeats 3 (some .int) 0 7 := ⟨yc_X7_repeats, m_in_X7_repeats, _, _, _, rfl, m_se_X7_repeats⟩
theorem yc_X7_save : YC yX7_save cX7_save 1 none 0 := ⟨m_co_X7_save, m_ini_X7, by decide +kernel, by decide +kernel, by decide +kernel⟩
theorem yv_X7_save : YV yX7_save cX7_save 1 none 0 7 := ⟨yc_X7_save, m_in_X7_save, _, _, _, rfl, m_se_X7_save⟩
theorem yc_X7_saveBeforeChange : YC yX7_saveBeforeChange cX7_saveBeforeChange 1 none 0 := ⟨m_co_X7_saveBeforeChange, m_ini_X7, by decide +kernel, by decide +kernel, by decide +kernel⟩
theorem yv_X7_saveBeforeChange : YV yX7_saveBeforeChange cX7_saveBeforeChange 1 none 0 7 := ⟨yc_X7_saveBeforeChange, m_in_X7_saveBeforeChange, _, _, _, rfl, m_se_X7_saveBeforeChange⟩
theorem yc_X7_setSpeed : YC yX7_setSpeed cX7_setSpeed 3 (some .int) 1 := ⟨m_co_X7_setSpeed, m_ini_X7, by decide +kernel, by decide +kernel, by decide +kernel⟩
theorem yv_X7_setSpeed : YV yX7_setSpeed cX7_setSpeed 3 (some .int) 1 7 := ⟨yc_X7_setSpeed, m_in_X7_setSpeed, _, _, _, rfl, m_se_X7_setSpeed⟩
theorem yc_X7_shuttle : YC yX7_shuttle cX7_shuttle 4 (some .int) 2 := ⟨m_co_X7_shuttle, m_ini_X7, by decide +kernel, by decide +kernel, by decide +kernel⟩
theorem yv_X7_shuttle : YV yX7_shuttle cX7_shuttle 4 (some .int) 2 7 := ⟨yc_X7_shuttle, m_in_X7_shuttle, _, _, _, rfl, m_se_X7_shuttle⟩
theorem yc_X7_syntaxError : YC yX7_syntaxError cX7_syntaxError 2 (some .int) 0 := ⟨m_co_X7_syntaxError, m_ini_X7, by decide +kernel, by decide +kernel, by decide +kernel⟩
theorem yv_X7_syntaxError : YV yX7_syntaxError cX7_syntaxError 2 (some .int) 0 7 := ⟨yc_X7_syntaxError, m_in_X7_syntaxError, _, _, _, rfl, m_se_X7_syntaxError⟩
theorem yc_X7_takeBack : YC yX7_takeBack cX7_takeBack 1 (some .int) 0 := ⟨m_co_X7_takeBack, m_ini_X7, by decide +kernel, by decide +kernel, by decide +kernel⟩
theorem yv_X7_takeBack : YV yX7_takeBack cX7_takeBack 1 (some .int) 0 7 := ⟨yc_X7_takeBack, m_in_X7_takeBack, _, _, _, rfl, m_se_X7_takeBack⟩
theorem yc_X7_takeOut : YC yX7_takeOut cX7_takeOut 4 (some .int) 1 := ⟨m_co_X7_takeOut, m_ini_X7, by decide +kernel, by decide +kernel, by decide +kernel⟩
theorem yv_X7_takeOut : YV yX7_takeOut cX7_takeOut 4 (some .int) 1 7 := ⟨yc_X7_takeOut, m_in_X7_takeOut, _, _, _, rfl, m_se_X7_takeOut⟩
theorem yc_X7_thread : YC yX7_thread cX7_thread 4 (some .int) 2 := ⟨m_co_X7_thread, m_ini_X7, by decide +kernel, by decide +kernel, by decide +kernel⟩
theorem yv_X7_thread : YV yX7_thread cX7_thread 4 (some .int) 2 7 := ⟨yc_X7_thread, m_in_X7_thread, _, _, _, rfl, m_se_X7_thread⟩
theorem yc_X7_turnTo : YC yX7_turnTo cX7_turnTo 4 (some .int) 1 := ⟨m_co_X7_turnTo, m_ini_X7, by decide +kernel, by decide +kernel, by decide +kernel⟩
theorem yv_X7_turnTo : YV yX7_turnTo cX7_turnTo 4 (some .int) 1 7 := ⟨yc_X7_turnTo, m_in_X7_turnTo, _, _, _, rfl, m_se_X7_turnTo⟩
theorem yc_X7_type : YC yX7_type cX7_type 2 (some .int) 1 := ⟨m_co_X7_type, m_ini_X7, by decide +kernel, by decide +kernel, by decide +kernel⟩
theorem yv_X7_type : YV yX7_type cX7_type 2 (some .int) 1 7 := ⟨yc_X7_type, m_in_X7_type, _, _, _, rfl, m_se_X7_type⟩
theorem yc_X7_undo : YC yX7_undo cX7_undo 1 (some .int) 0 := ⟨m_co_X7_undo, m_ini_X7, by decide +kernel, by decide +kernel, by decide +kernel⟩
theorem yv_X7_undo : YV yX7_undo cX7_undo 1 (some .int) 0 7 := ⟨yc_X7_undo, m_in_X7_undo, _, _, _, rfl, m_se_X7_undo⟩
theorem yc_X7_weave : YC yX7_weave cX7_weave 4 (some .int) 1 := ⟨m_co_X7_weave, m_ini_X7, by decide +kernel, by decide +kernel, by decide +kernel⟩
theorem yv_X7_weave : YV yX7_weave cX7_weave 4 (some .int) 1 7 := ⟨yc_X7_weave, m_in_X7_weave, _, _, _, rfl, m_se_X7_weave⟩
theorem yc_X7_whyNot : YC yX7_whyNot cX7_whyNot 1 (some .int) 0 := ⟨m_co_X7_whyNot, m_ini_X7, by decide +kernel, by decide +kernel, by decide +kernel⟩
theorem yv_X7_whyNot : YV yX7_whyNot cX7_whyNot 1 (some .int) 0 7 := ⟨yc_X7_whyNot, m_in_X7_whyNot, _, _, _, rfl, m_se_X7_whyNot⟩
theorem yc_X7_wind : YC yX7_wind cX7_wind 6 (some .int) 3 := ⟨m_co_X7_wind, m_ini_X7, by decide +kernel, by decide +kernel, by decide +kernel⟩
theorem yv_X7_wind : YV yX7_wind cX7_wind 6 (some .int) 3 7 := ⟨yc_X7_wind, m_in_X7_wind, _, _, _, rfl, m_se_X7_wind⟩
theorem yc_X8_addCard : YC yX8_addCard cX8_addCard 4 (some .int) 3 := ⟨m_co_X8_addCard, m_ini_X8, by decide +kernel, by decide +kernel, by decide +kernel⟩
theorem yv_X8_addCard : YV yX8_addCard cX8_addCard 4 (some .int) 3 8 := ⟨yc_X8_addCard, m_in_X8_addCard, _, _, _, rfl, m_se_X8_addCard⟩
theorem yc_X8_addsCard : YC yX8_addsCard cX8_addsCard 5 none 3 := ⟨m_co_X8_addsCard, m_ini_X8, by decide +kernel, by decide +kernel, by decide +kernel⟩
theorem yv_X8_addsCard : YV yX8_addsCard cX8_addsCard 5 none 3 8 := ⟨yc_X8_addsCard, m_in_X8_addsCard, _, _, _, rfl, m_se_X8_addsCard⟩
theorem yc_X8_addsRow : YC yX8_addsRow cX8_addsRow 2 none 0 := ⟨m_co_X8_addsRow, m_ini_X8, by decide +kernel, by decide +kernel, by decide +kernel⟩
theorem yv_X8_addsRow : YV yX8_addsRow cX8_addsRow 2 none 0 8 := ⟨yc_X8_addsRow, m_in_X8_addsRow, _, _, _, rfl, m_se_X8_addsRow⟩
theorem yc_X8_card : YC yX8_card cX8_card 3 (some .int) 2 := ⟨m_co_X8_card, m_ini_X8, by decide +kernel, by decide +kernel, by decide +kernel⟩
theorem yv_X8_card : YV yX8_card cX8_card 3 (some .int) 2 8 := ⟨yc_X8_card, m_in_X8_card, _, _, _, rfl, m_se_X8_card⟩
theorem yc_X8_cardPart : YC yX8_cardPart cX8_cardPart 3 (some .int) 2 := ⟨m_co_X8_cardPart, m_ini_X8, by decide +kernel, by decide +kernel, by decide +kernel⟩
theorem yv_X8_cardPart : YV yX8_cardPart cX8_cardPart 3 (some .int) 2 8 := ⟨yc_X8_cardPart, m_in_X8_cardPart, _, _, _, rfl, m_se_X8_cardPart⟩
theorem yc_X8_character : YC yX8_character cX8_character 2 (some .int) 1 := ⟨m_co_X8_character, m_ini_X8, by decide +kernel, by decide +kernel, by decide +kernel⟩
theorem yv_X8_character : YV yX8_character cX8_character 2 (some .int) 1 8 := ⟨yc_X8_character, m_in_X8_character, _, _, _, rfl, m_se_X8_character⟩
theorem yc_X8_clearText : YC yX8_clearText cX8_clearText 2 (some .int) 0 := ⟨m_co_X8_clearText, m_ini_X8, by decide +kernel, by decide +kernel, by decide +kernel⟩
theorem yv_X8_clearText : YV yX8_clearText cX8_clearText 2 (some .int) 0 8 := ⟨yc_X8_clearText, m_in_X8_clearText, _, _, _, rfl, m_se_X8_clearText⟩
theorem yc_X8_cloth : YC yX8_cloth cX8_cloth 3 (some .int) 2 := ⟨m_co_X8_cloth, m_ini_X8, by decide +kernel, by decide +kernel, by decide +kernel⟩
theorem yv_X8_cloth : YV yX8_cloth cX8_cloth 3 (some .int) 2 8 := ⟨yc_X8_cloth, m_in_X8_cloth, _, _, _, rfl, m_se_X8_cloth⟩
theorem yc_X8_copies : YC yX8_copies cX8_copies 5 none 4 := ⟨m_co_X8_copies, m_ini_X8, by decide +kernel, by decide +kernel, by decide +kernel⟩
theorem yv_X8_copies : YS yX8_copies cX8_copies 5 none 4 := ⟨yc_X8_copies, m_st_X8_copies⟩
theorem yc_X8_count : YC yX8_count cX8_count 2 (some .int) 1 := ⟨m_co_X8_count, m_ini_X8, by decide +kernel, by decide +kernel, by decide +kernel⟩
theorem yv_X8_count : YV yX8_count cX8_count 2 (some .int) 1 8 := ⟨yc_X8_count, m_in_X8_count, _, _, _, rfl, m_se_X8_count⟩
theorem yc_X8_digest : YC yX8_digest cX8_digest 5 (some .long) 0 := ⟨m_co_X8_digest, m_ini_X8, by decide +kernel, by decide +kernel, by decide +kernel⟩
theorem yv_X8_digest : YV yX8_digest cX8_digest 5 (some .long) 0 8 := ⟨yc_X8_digest, m_in_X8_digest, _, _, _, rfl, m_se_X8_digest⟩
theorem yc_X8_draw : YC yX8_draw cX8_draw 3 (some .int) 2 := ⟨m_co_X8_draw, m_ini_X8, by decide +kernel, by decide +kernel, by decide +kernel⟩
theorem yv_X8_draw : YV yX8_draw cX8_draw 3 (some .int) 2 8 := ⟨yc_X8_draw, m_in_X8_draw, _, _, _, rfl, m_se_X8_draw⟩
theorem yc_X8_emptyOne : YC yX8_emptyOne cX8_emptyOne 2 (some .int) 0 := ⟨m_co_X8_emptyOne, m_ini_X8, by decide +kernel, by decide +kernel, by decide +kernel⟩
theorem yv_X8_emptyOne : YV yX8_emptyOne cX8_emptyOne 2 (some .int) 0 8 := ⟨yc_X8_emptyOne, m_in_X8_emptyOne, _, _, _, rfl, m_se_X8_emptyOne⟩
theorem yc_X8_findError : YC yX8_findError cX8_findError 1 (some .int) 0 := ⟨m_co_X8_findError, m_ini_X8, by decide +kernel, by decide +kernel, by decide +kernel⟩
theorem yv_X8_findError : YV yX8_findError cX8_findError 1 (some .int) 0 8 := ⟨yc_X8_findError, m_in_X8_findError, _, _, _, rfl, m_se_X8_findError⟩
theorem yc_X8_findReason : YC yX8_findReason cX8_findReason 6 none 1 := ⟨m_co_X8_findReason, m_ini_X8, by decide +kernel, by decide +kernel, by decide +kernel⟩
theorem yv_X8_findReason : YV yX8_findReason cX8_findReason 6 none 1 8 := ⟨yc_X8_findReason, m_in_X8_findReason, _, _, _, rfl, m_se_X8_findReason⟩
theorem yc_X8_firstBroken : YC yX8_firstBroken cX8_firstBroken 3 (some .int) 0 := ⟨m_co_X8_firstBroken, m_ini_X8, by decide +kernel, by decide +kernel, by decide +kernel⟩
theorem yv_X8_firstBroken : YV yX8_firstBroken cX8_firstBroken 3 (some .int) 0 8 := ⟨yc_X8_firstBroken, m_in_X8_firstBroken, _, _, _, rfl, m_se_X8_firstBroken⟩
theorem yc_X8_firstEmpty : YC yX8_firstEmpty cX8_firstEmpty 1 (some .int) 0 := ⟨m_co_X8_firstEmpty, m_ini_X8, by decide +kernel, by decide +kernel, by decide +kernel⟩
theorem yv_X8_firstEmpty : YV yX8_firstEmpty cX8_firstEmpty 1 (some .int) 0 8 := ⟨yc_X8_firstEmpty, m_in_X8_firstEmpty, _, _, _, rfl, m_se_X8_firstEmpty⟩
theorem yc_X8_floatOf : YC yX8_floatOf cX8_floatOf 6 (some .int) 1 := ⟨m_co_X8_floatOf, m_ini_X8, by decide +kernel, by decide +kernel, by decide +kernel⟩
theorem yv_X8_floatOf : YV yX8_floatOf cX8_floatOf 6 (some .int) 1 8 := ⟨yc_X8_floatOf, m_in_X8_floatOf, _, _, _, rfl, m_se_X8_floatOf⟩
theorem yc_X8_inBox : YC yX8_inBox cX8_inBox 3 (some .int) 2 := ⟨m_co_X8_inBox, m_ini_X8, by decide +kernel, by decide +kernel, by decide +kernel⟩
theorem yv_X8_inBox : YV yX8_inBox cX8_inBox 3 (some .int) 2 8 := ⟨yc_X8_inBox, m_in_X8_inBox, _, _, _, rfl, m_se_X8_inBox⟩
theorem yc_X8_inBoxes : YC yX8_inBoxes cX8_inBoxes 3 (some .int) 0 := ⟨m_co_X8_inBoxes, m_ini_X8, by decide +kernel, by decide +kernel, by decide +kernel⟩
theorem yv_X8_inBoxes : YV yX8_inBoxes cX8_inBoxes 3 (some .int) 0 8 := ⟨yc_X8_inBoxes, m_in_X8_inBoxes, _, _, _, rfl, m_se_X8_inBoxes⟩
theorem yc_X8_init : YC yX8_init cX8_init 2 none 0 := ⟨m_co_X8_init, m_ini_X8, by decide +kernel, by decide +kernel, by decide +kernel⟩
theorem yv_X8_init : YI yX8_init cX8_init 2 0 := ⟨yc_X8_init, m_in_X8_init, rfl⟩
theorem yc_X8_isBox : YC yX8_isBox cX8_isBox 2 (some .boolean) 2 := ⟨m_co_X8_isBox, m_ini_X8, by decide +kernel, by decide +kernel, by decide +kernel⟩
theorem yv_X8_isBox : YS yX8_isBox cX8_isBox 2 (some .boolean) 2 := ⟨yc_X8_isBox, m_st_X8_isBox⟩
theorem yc_X8_isCard : YC yX8_isCard cX8_isCard 2 (some .boolean) 1 := ⟨m_co_X8_isCard, m_ini_X8, by decide +kernel, by decide +kernel, by decide +kernel⟩
theorem yv_X8_isCard : YV yX8_isCard cX8_isCard 2 (some .boolean) 1 8 := ⟨yc_X8_isCard, m_in_X8_isCard, _, _, _, rfl, m_se_X8_isCard⟩
theorem yc_X8_isNext : YC yX8_isNext cX8_isNext 3 (some .boolean) 1 := ⟨m_co_X8_isNext, m_ini_X8, by decide +kernel, by decide +kernel, by decide +kernel⟩
theorem yv_X8_isNext : YV yX8_isNext cX8_isNext 3 (some .boolean) 1 8 := ⟨yc_X8_isNext, m_in_X8_isNext, _, _, _, rfl, m_se_X8_isNext⟩
theorem yc_X8_isRepeating : YC yX8_isRepeating cX8_isRepeating 3 (some .int) 0 := ⟨m_co_X8_isRepeating, m_ini_X8, by decide +kernel, by decide +kernel, by decide +kernel⟩
theorem yv_X8_isRepeating : YV yX8_isRepeating cX8_isRepeating 3 (some .int) 0 8 := ⟨yc_X8_isRepeating, m_in_X8_isRepeating, _, _, _, rfl, m_se_X8_isRepeating⟩
theorem yc_X8_isShuttle : YC yX8_isShuttle cX8_isShuttle 1 (some .boolean) 1 := ⟨m_co_X8_isShuttle, m_ini_X8, by decide +kernel, by decide +kernel, by decide +kernel⟩
theorem yv_X8_isShuttle : YS yX8_isShuttle cX8_isShuttle 1 (some .boolean) 1 := ⟨yc_X8_isShuttle, m_st_X8_isShuttle⟩
theorem yc_X8_isThread : YC yX8_isThread cX8_isThread 1 (some .boolean) 1 := ⟨m_co_X8_isThread, m_ini_X8, by decide +kernel, by decide +kernel, by decide +kernel⟩
theorem yv_X8_isThread : YS yX8_isThread cX8_isThread 1 (some .boolean) 1 := ⟨yc_X8_isThread, m_st_X8_isThread⟩
theorem yc_X8_isTooFar : YC yX8_isTooFar cX8_isTooFar 3 (some .boolean) 1 := ⟨m_co_X8_isTooFar, m_ini_X8, by decide +kernel, by decide +kernel, by decide +kernel⟩
theorem yv_X8_isTooFar : YV yX8_isTooFar cX8_isTooFar 3 (some .boolean) 1 8 := ⟨yc_X8_isTooFar, m_in_X8_isTooFar, _, _, _, rfl, m_se_X8_isTooFar⟩
theorem yc_X8_left : YC yX8_left cX8_left 2 (some .int) 0 := ⟨m_co_X8_left, m_ini_X8, by decide +kernel, by decide +kernel, by decide +kernel⟩
theorem yv_X8_left : YV yX8_left cX8_left 2 (some .int) 0 8 := ⟨yc_X8_left, m_in_X8_left, _, _, _, rfl, m_se_X8_left⟩
theorem yc_X8_longestFloat : YC yX8_longestFloat cX8_longestFloat 2 (some .int) 1 := ⟨m_co_X8_longestFloat, m_ini_X8, by decide +kernel, by decide +kernel, by decide +kernel⟩
theorem yv_X8_longestFloat : YV yX8_longestFloat cX8_longestFloat 2 (some .int) 1 8 := ⟨yc_X8_longestFloat, m_in_X8_longestFloat, _, _, _, rfl, m_se_X8_longestFloat⟩
theorem yc_X8_mend : YC yX8_mend cX8_mend 3 (some .int) 2 := ⟨m_co_X8_mend, m_ini_X8, by decide +kernel, by decide +kernel, by decide +kernel⟩
theorem yv_X8_mend : YV yX8_mend cX8_mend 3 (some .int) 2 8 := ⟨yc_X8_mend, m_in_X8_mend, _, _, _, rfl, m_se_X8_mend⟩
theorem yc_X8_moveBoxes : YC yX8_moveBoxes cX8_moveBoxes 3 (some .int) 2 := ⟨m_co_X8_moveBoxes, m_ini_X8, by decide +kernel, by decide +kernel, by decide +kernel⟩
theorem yv_X8_moveBoxes : YV yX8_moveBoxes cX8_moveBoxes 3 (some .int) 2 8 := ⟨yc_X8_moveBoxes, m_in_X8_moveBoxes, _, _, _, rfl, m_se_X8_moveBoxes⟩
theorem yc_X8_moves : YC yX8_moves cX8_moves 6 none 0 := ⟨m_co_X8_moves, m_ini_X8, by decide +kernel, by decide +kernel, by decide +kernel⟩
theorem yv_X8_moves : YV yX8_moves cX8_moves 6 none 0 8 := ⟨yc_X8_moves, m_in_X8_moves, _, _, _, rfl, m_se_X8_moves⟩
theorem yc_X8_nextReason : YC yX8_nextReason cX8_nextReason 1 (some .int) 0 := ⟨m_co_X8_nextReason, m_ini_X8, by decide +kernel, by decide +kernel, by decide +kernel⟩
theorem yv_X8_nextReason : YV yX8_nextReason cX8_nextReason 1 (some .int) 0 8 := ⟨yc_X8_nextReason, m_in_X8_nextReason, _, _, _, rfl, m_se_X8_nextReason⟩
theorem yc_X8_ofCard : YC yX8_ofCard cX8_ofCard 3 (some .int) 2 := ⟨m_co_X8_ofCard, m_ini_X8, by decide +kernel, by decide +kernel, by decide +kernel⟩
theorem yv_X8_ofCard : YV yX8_ofCard cX8_ofCard 3 (some .int) 2 8 := ⟨yc_X8_ofCard, m_in_X8_ofCard, _, _, _, rfl, m_se_X8_ofCard⟩
theorem yc_X8_ofThread : YC yX8_ofThread cX8_ofThread 3 (some .int) 2 := ⟨m_co_X8_ofThread, m_ini_X8, by decide +kernel, by decide +kernel, by decide +kernel⟩
theorem yv_X8_ofThread : YV yX8_ofThread cX8_ofThread 3 (some .int) 2 8 := ⟨yc_X8_ofThread, m_in_X8_ofThread, _, _, _, rfl, m_se_X8_ofThread⟩
theorem yc_X8_picksLeft : YC yX8_picksLeft cX8_picksLeft 1 (some .int) 0 := ⟨m_co_X8_picksLeft, m_ini_X8, by decide +kernel, by decide +kernel, by decide +kernel⟩
theorem yv_X8_picksLeft : YV yX8_picksLeft cX8_picksLeft 1 (some .int) 0 8 := ⟨yc_X8_picksLeft, m_in_X8_picksLeft, _, _, _, rfl, m_se_X8_picksLeft⟩
theorem yc_X8_putIn : YC yX8_putIn cX8_putIn 4 (some .int) 3 := ⟨m_co_X8_putIn, m_ini_X8, by decide +kernel, by decide +kernel, by decide +kernel⟩
theorem yv_X8_putIn : YV yX8_putIn cX8_putIn 4 (some .int) 3 8 := ⟨yc_X8_putIn, m_in_X8_putIn, _, _, _, rfl, m_se_X8_putIn⟩
theorem yc_X8_readCards : YC yX8_readCards cX8_readCards 3 (some .int) 0 := ⟨m_co_X8_readCards, m_ini_X8, by decide +kernel, by decide +kernel, by decide +kernel⟩
theorem yv_X8_readCards : YV yX8_readCards cX8_readCards 3 (some .int) 0 8 := ⟨yc_X8_readCards, m_in_X8_readCards, _, _, _, rfl, m_se_X8_readCards⟩
theorem yc_X8_readsCard : YC yX8_readsCard cX8_readsCard 2 (some .boolean) 0 := ⟨m_co_X8_readsCard, m_ini_X8, by decide +kernel, by decide +kernel, by decide +kernel⟩
theorem yv_X8_readsCard : YV yX8_readsCard cX8_readsCard 2 (some .boolean) 0 8 := ⟨yc_X8_readsCard, m_in_X8_readsCard, _, _, _, rfl, m_se_X8_readsCard⟩
theorem yc_X8_record : YC yX8_record cX8_record 2 none 0 := ⟨m_co_X8_record, m_ini_X8, by decide +kernel, by decide +kernel, by decide +kernel⟩
theorem yv_X8_record : YV yX8_record cX8_record 2 none 0 8 := ⟨yc_X8_record, m_in_X8_record, _, _, _, rfl, m_se_X8_record⟩
theorem yc_X8_recordOther : YC yX8_recordOther cX8_recordOther 1 none 0 := ⟨m_co_X8_recordOther, m_ini_X8, by decide +kernel, by decide +kernel, by decide +kernel⟩
theorem yv_X8_recordOther : YV yX8_recordOther cX8_recordOther 1 none 0 8 := ⟨yc_X8_recordOther, m_in_X8_recordOther, _, _, _, rfl, m_se_X8_recordOther⟩
theorem yc_X8_removeCard : YC yX8_removeCard cX8_removeCard 3 (some .int) 1 := ⟨m_co_X8_removeCard, m_ini_X8, by decide +kernel, by decide +kernel, by decide +kernel⟩
theorem yv_X8_removeCard : YV yX8_removeCard cX8_removeCard 3 (some .int) 1 8 := ⟨yc_X8_removeCard, m_in_X8_removeCard, _, _, _, rfl, m_se_X8_removeCard⟩
theorem yc_X8_repeats : YC yX8_repeats cX8_repeats 1 (some .int) 0 := ⟨m_co_X8_repeats, m_ini_X8, by decide +kernel, by decide +kernel, by decide +kernel⟩
theorem yv_X8_repeats : YV yX8_repeats cX8_repeats 1 (some .int) 0 8 := ⟨yc_X8_repeats, m_in_X8_repeats, _, _, _, rfl, m_se_X8_repeats⟩
theorem yc_X8_rowPart : YC yX8_rowPart cX8_rowPart 3 (some .int) 2 := ⟨m_co_X8_rowPart, m_ini_X8, by decide +kernel, by decide +kernel, by decide +kernel⟩
theorem yv_X8_rowPart : YV yX8_rowPart cX8_rowPart 3 (some .int) 2 8 := ⟨yc_X8_rowPart, m_in_X8_rowPart, _, _, _, rfl, m_se_X8_rowPart⟩
theorem yc_X8_says : YC yX8_says cX8_says 3 none 2 := ⟨m_co_X8_says, m_ini_X8, by decide +kernel, by decide +kernel, by decide +kernel⟩
theorem yv_X8_says : YV yX8_says cX8_says 3 none 2 8 := ⟨yc_X8_says, m_in_X8_says, _, _, _, rfl, m_se_X8_says⟩
theorem yc_X8_setShuttle : YC yX8_setShuttle cX8_setShuttle 4 none 3 := ⟨m_co_X8_setShuttle, m_ini_X8, by decide +kernel, by decide +kernel, by decide +kernel⟩
theorem yv_X8_setShuttle : YV yX8_setShuttle cX8_setShuttle 4 none 3 8 := ⟨yc_X8_setShuttle, m_in_X8_setShuttle, _, _, _, rfl, m_se_X8_setShuttle⟩
theorem yc_X8_setSpeed : YC yX8_setSpeed cX8_setSpeed 2 (some .int) 1 := ⟨m_co_X8_setSpeed, m_ini_X8, by decide +kernel, by decide +kernel, by decide +kernel⟩
theorem yv_X8_setSpeed : YV yX8_setSpeed cX8_setSpeed 2 (some .int) 1 8 := ⟨yc_X8_setSpeed, m_in_X8_setSpeed, _, _, _, rfl, m_se_X8_setSpeed⟩
theorem yc_X8_setThread : YC yX8_setThread cX8_setThread 4 none 3 := ⟨m_co_X8_setThread, m_ini_X8, by decide +kernel, by decide +kernel, by decide +kernel⟩
theorem yv_X8_setThread : YV yX8_setThread cX8_setThread 4 none 3 8 := ⟨yc_X8_setThread, m_in_X8_setThread, _, _, _, rfl, m_se_X8_setThread⟩
theorem yc_X8_sets : YC yX8_sets cX8_sets 4 (some .int) 2 := ⟨m_co_X8_sets, m_ini_X8, by decide +kernel, by decide +kernel, by decide +kernel⟩
theorem yv_X8_sets : YV yX8_sets cX8_sets 4 (some .int) 2 8 := ⟨yc_X8_sets, m_in_X8_sets, _, _, _, rfl, m_se_X8_sets⟩
theorem yc_X8_shown : YC yX8_shown cX8_shown 3 (some .int) 2 := ⟨m_co_X8_shown, m_ini_X8, by decide +kernel, by decide +kernel, by decide +kernel⟩
theorem yv_X8_shown : YV yX8_shown cX8_shown 3 (some .int) 2 8 := ⟨yc_X8_shown, m_in_X8_shown, _, _, _, rfl, m_se_X8_shown⟩
theorem yc_X8_shuttle : YC yX8_shuttle cX8_shuttle 3 (some .int) 2 := ⟨m_co_X8_shuttle, m_ini_X8, by decide +kernel, by decide +kernel, by decide +kernel⟩
theorem yv_X8_shuttle : YV yX8_shuttle cX8_shuttle 3 (some .int) 2 8 := ⟨yc_X8_shuttle, m_in_X8_shuttle, _, _, _, rfl, m_se_X8_shuttle⟩
theorem yc_X8_shuttleIn : YC yX8_shuttleIn cX8_shuttleIn 5 (some .int) 2 := ⟨m_co_X8_shuttleIn, m_ini_X8, by decide +kernel, by decide +kernel, by decide +kernel⟩
theorem yv_X8_shuttleIn : YV yX8_shuttleIn cX8_shuttleIn 5 (some .int) 2 8 := ⟨yc_X8_shuttleIn, m_in_X8_shuttleIn, _, _, _, rfl, m_se_X8_shuttleIn⟩
theorem yc_X8_shuttlePart : YC yX8_shuttlePart cX8_shuttlePart 3 (some .int) 2 := ⟨m_co_X8_shuttlePart, m_ini_X8, by decide +kernel, by decide +kernel, by decide +kernel⟩
theorem yv_X8_shuttlePart : YV yX8_shuttlePart cX8_shuttlePart 3 (some .int) 2 8 := ⟨yc_X8_shuttlePart, m_in_X8_shuttlePart, _, _, _, rfl, m_se_X8_shuttlePart⟩
theorem yc_X8_syntaxError : YC yX8_syntaxError cX8_syntaxError 1 (some .int) 0 := ⟨m_co_X8_syntaxError, m_ini_X8, by decide +kernel, by decide +kernel, by decide +kernel⟩
theorem yv_X8_syntaxError : YV yX8_syntaxError cX8_syntaxError 1 (some .int) 0 8 := ⟨yc_X8_syntaxError, m_in_X8_syntaxError, _, _, _, rfl, m_se_X8_syntaxError⟩
theorem yc_X8_takeBack : YC yX8_takeBack cX8_takeBack 3 (some .int) 0 := ⟨m_co_X8_takeBack, m_ini_X8, by decide +kernel, by decide +kernel, by decide +kernel⟩
theorem yv_X8_takeBack : YV yX8_takeBack cX8_takeBack 3 (some .int) 0 8 := ⟨yc_X8_takeBack, m_in_X8_takeBack, _, _, _, rfl, m_se_X8_takeBack⟩
theorem yc_X8_takeOut : YC yX8_takeOut cX8_takeOut 3 (some .int) 1 := ⟨m_co_X8_takeOut, m_ini_X8, by decide +kernel, by decide +kernel, by decide +kernel⟩
theorem yv_X8_takeOut : YV yX8_takeOut cX8_takeOut 3 (some .int) 1 8 := ⟨yc_X8_takeOut, m_in_X8_takeOut, _, _, _, rfl, m_se_X8_takeOut⟩
theorem yc_X8_thread : YC yX8_thread cX8_thread 3 (some .int) 2 := ⟨m_co_X8_thread, m_ini_X8, by decide +kernel, by decide +kernel, by decide +kernel⟩
theorem yv_X8_thread : YV yX8_thread cX8_thread 3 (some .int) 2 8 := ⟨yc_X8_thread, m_in_X8_thread, _, _, _, rfl, m_se_X8_thread⟩
theorem yc_X8_threadPart : YC yX8_threadPart cX8_threadPart 3 (some .int) 2 := ⟨m_co_X8_threadPart, m_ini_X8, by decide +kernel, by decide +kernel, by decide +kernel⟩
theorem yv_X8_threadPart : YV yX8_threadPart cX8_threadPart 3 (some .int) 2 8 := ⟨yc_X8_threadPart, m_in_X8_threadPart, _, _, _, rfl, m_se_X8_threadPart⟩
theorem yc_X8_threadsOf : YC yX8_threadsOf cX8_threadsOf 4 (some .int) 1 := ⟨m_co_X8_threadsOf, m_ini_X8, by decide +kernel, by decide +kernel, by decide +kernel⟩
theorem yv_X8_threadsOf : YV yX8_threadsOf cX8_threadsOf 4 (some .int) 1 8 := ⟨yc_X8_threadsOf, m_in_X8_threadsOf, _, _, _, rfl, m_se_X8_threadsOf⟩
theorem yc_X8_turnTo : YC yX8_turnTo cX8_turnTo 2 (some .int) 1 := ⟨m_co_X8_turnTo, m_ini_X8, by decide +kernel, by decide +kernel, by decide +kernel⟩
theorem yv_X8_turnTo : YV yX8_turnTo cX8_turnTo 2 (some .int) 1 8 := ⟨yc_X8_turnTo, m_in_X8_turnTo, _, _, _, rfl, m_se_X8_turnTo⟩
theorem yc_X8_type : YC yX8_type cX8_type 2 (some .int) 1 := ⟨m_co_X8_type, m_ini_X8, by decide +kernel, by decide +kernel, by decide +kernel⟩
theorem yv_X8_type : YV yX8_type cX8_type 2 (some .int) 1 8 := ⟨yc_X8_type, m_in_X8_type, _, _, _, rfl, m_se_X8_type⟩
theorem yc_X8_undo : YC yX8_undo cX8_undo 1 (some .int) 0 := ⟨m_co_X8_undo, m_ini_X8, by decide +kernel, by decide +kernel, by decide +kernel⟩
theorem yv_X8_undo : YV yX8_undo cX8_undo 1 (some .int) 0 8 := ⟨yc_X8_undo, m_in_X8_undo, _, _, _, rfl, m_se_X8_undo⟩
theorem yc_X8_weave : YC yX8_weave cX8_weave 3 (some .int) 1 := ⟨m_co_X8_weave, m_ini_X8, by decide +kernel, by decide +kernel, by decide +kernel⟩
theorem yv_X8_weave : YV yX8_weave cX8_weave 3 (some .int) 1 8 := ⟨yc_X8_weave, m_in_X8_weave, _, _, _, rfl, m_se_X8_weave⟩
theorem yc_X8_whyNot : YC yX8_whyNot cX8_whyNot 1 (some .int) 0 := ⟨m_co_X8_whyNot, m_ini_X8, by decide +kernel, by decide +kernel, by decide +kernel⟩
theorem yv_X8_whyNot : YV yX8_whyNot cX8_whyNot 1 (some .int) 0 8 := ⟨yc_X8_whyNot, m_in_X8_whyNot, _, _, _, rfl, m_se_X8_whyNot⟩
theorem yc_X8_wind : YC yX8_wind cX8_wind 5 (some .int) 3 := ⟨m_co_X8_wind, m_ini_X8, by decide +kernel, by decide +kernel, by decide +kernel⟩
theorem yv_X8_wind : YV yX8_wind cX8_wind 5 (some .int) 3 8 := ⟨yc_X8_wind, m_in_X8_wind, _, _, _, rfl, m_se_X8_wind⟩
theorem yc_X8_within : YC yX8_within cX8_within 3 (some .boolean) 3 := ⟨m_co_X8_within, m_ini_X8, by decide +kernel, by decide +kernel, by decide +kernel⟩
theorem yv_X8_within : YS yX8_within cX8_within 3 (some .boolean) 3 := ⟨yc_X8_within, m_st_X8_within⟩
end
section
/-! the pictures of the objects: flat functions Nat → Int32, seen through views -/
def vw (σ : Nat → Int32) (b s n : Nat) : Nat → Int32 := fun i => if i < n then σ (b + s * i) else 0
theorem vw_at {σ : Nat → Int32} {b s n k : Nat} (h : k < n) : vw σ b s n k = σ (b + s * k) := if_pos h
theorem vw_st {σ : Nat → Int32} {b s n k : Nat} {v : Int32} (hs : 0 < s) (h : k < n) : upd (vw σ b s n) k v = vw (upd σ (b + s * k) v) b s n := by
  funext i
  by_cases e : i = k
  · subst e
    rw [pk_us, vw_at h, pk_us]
  · rw [pk_un e]
    by_cases hi : i < n
    · rw [vw_at hi, vw_at hi, pk_un]
      intro h2
      have : s * i = s * k := by omega
      exact e (Nat.eq_of_mul_eq_mul_left hs this)
    · simp [vw, hi]
theorem vw_congr {σ σ' : Nat → Int32} {b s n : Nat} (h : ∀ i, i < n → σ' (b + s * i) = σ (b + s * i)) : vw σ' b s n = vw σ b s n := by
  funext i
  by_cases hi : i < n
  · rw [vw_at hi, vw_at hi, h i hi]
  · simp [vw, hi]
abbrev iA (g : Ge) (n : Nat) (row : Nat → Int32) : va_E := .inl (g.2.1.1, n, .inl row)
def shL (g : Ge) (o : Nat) (σ : Nat → Int32) : List va_E := [.inr (5, [.ref (o + 1), .ref (o + 2), .ref (o + 3), .ref (o + 4)]), iA g 5 (vw σ 12 4 5), iA g 5 (vw σ 13 4 5), iA g 5 (vw σ 14 4 5), iA g 5 (vw σ 15 4 5)]
def thL (g : Ge) (o : Nat) (σ : Nat → Int32) : List va_E := [.inr (6, [.ref (o + 1), .ref (o + 2)]), iA g 12 (vw σ 32 2 12), iA g 12 (vw σ 33 2 12)]
def chL (g : Ge) (o : Nat) (σ : Nat → Int32) : List va_E := [.inr (1, [.ref (o + 1), .ref (o + 2), .ref (o + 3), .int (σ 0), .int (σ 1)]), iA g 16 (vw σ 56 3 16), iA g 16 (vw σ 57 3 16), iA g 16 (vw σ 58 3 16)]
def goE (o : Nat) (σ : Nat → Int32) : va_E := .inr (3, [.ref (o + 1), .ref (o + 6), .ref (o + 9), .ref (o + 13), .int (σ 2), .int (σ 5)])
def geL (g : Ge) (o : Nat) (σ : Nat → Int32) : List va_E := goE o σ :: (shL g (o + 1) σ ++ (thL g (o + 6) σ ++ (chL g (o + 9) σ ++ [iA g 2 (vw σ 3 1 2)])))
def clL (g : Ge) (o : Nat) (σ ρ : Nat → Int32) : List va_E := [.inr (2, [.ref (o + 1), .ref (o + 2), .ref (o + 3), .ref (o + 4), .ref (o + 5), .ref (o + 6), .ref (o + 7), .int (σ 7), .int (ρ 140)]), iA g 20 (vw ρ 0 7 20), iA g 20 (vw ρ 1 7 20), iA g 20 (vw ρ 2 7 20), iA g 20 (vw ρ 3 7 20), iA g 20 (vw ρ 4 7 20), iA g 20 (vw ρ 5 7 20), iA g 20 (vw ρ 6 7 20)]
def loE (o : Nat) (σ : Nat → Int32) : va_E := .inr (4, [.ref (o + 1), .ref (o + 15), .int (σ 6), .int (σ 8), .int (σ 9), .int (σ 10), .int (σ 11)])
def loL (g : Ge) (o : Nat) (σ ρ : Nat → Int32) : List va_E := loE o σ :: (geL g (o + 1) σ ++ clL g (o + 15) σ ρ)
def rdL (κ : Nat → Int32) : List va_E := [.inr (0, [.int (κ 0), .int (κ 1), .int (κ 2), .int (κ 3), .int (κ 4)])]
def svR (o : Nat) : Nat → Option Nat := fun i => if i < 6 then some (o + 41 + 23 * i) else none
def mnE (o : Nat) (π : Nat → Int32) : va_E := .inr (7, [.ref (o + 1), .ref (o + 24), .int (π 0), .int (π 1), .ref (o + 25), .ref (o + 39), .ref (o + 40), .int (π 2)])
def svE (g : Ge) (o : Nat) : va_E := .inl (g.2.1.2.2, 6, .inr (.inr (.inr (.inr (svR o)))))
def svL (g : Ge) (o : Nat) (S P : Nat → Nat → Int32) : List va_E := loL g (o + 41) (S 0) (P 0) ++ (loL g (o + 41 + 23) (S 1) (P 1) ++ (loL g (o + 41 + 46) (S 2) (P 2) ++ (loL g (o + 41 + 69) (S 3) (P 3) ++ (loL g (o + 41 + 92) (S 4) (P 4) ++ loL g (o + 41 + 115) (S 5) (P 5)))))
def xL (g : Ge) (o : Nat) (σ ρ : Nat → Int32) (S P : Nat → Nat → Int32) (φ κ τ π : Nat → Int32) : List va_E := mnE o π :: (loL g (o + 1) σ ρ ++ (svE g o :: (geL g (o + 25) φ ++ (rdL κ ++ (.inl (g.2.1.2.1, 80, .inl τ) :: svL g o S P)))))
def mdL (g : Ge) (o : Nat) (μ kp hs tx ι : Nat → Int32) : List va_E := [.inr (8, [.ref (o + 1), .ref (o + 2), .ref (o + 3), .int (ι 0), .ref (o + 4), .int (ι 1), .int (ι 2), .int (ι 3), .int (ι 4), .int (ι 5), .int (ι 6), .int (ι 7)]), iA g 284 μ, iA g 284 kp, iA g 1704 hs, iA g 80 tx]
theorem shL_eq {g : Ge} {o : Nat} {σ σ' : Nat → Int32} (h : ∀ i, 12 ≤ i → i < 32 → σ' i = σ i) : shL g o σ' = shL g o σ := by
  unfold shL
  rw [vw_congr (b := 12) (s := 4) (n := 5) (fun i hi => h _ (by omega) (by omega)), vw_congr (b := 13) (s := 4) (n := 5) (fun i hi => h _ (by omega) (by omega)), vw_congr (b := 14) (s := 4) (n := 5) (fun i hi => h _ (by omega) (by omega)), vw_congr (b := 15) (s := 4) (n := 5) (fun i hi => h _ (by omega) (by omega))]
theorem thL_eq {g : Ge} {o : Nat} {σ σ' : Nat → Int32} (h : ∀ i, 32 ≤ i → i < 56 → σ' i = σ i) : thL g o σ' = thL g o σ := by
  unfold thL
  rw [vw_congr (b := 32) (s := 2) (n := 12) (fun i hi => h _ (by omega) (by omega)), vw_congr (b := 33) (s := 2) (n := 12) (fun i hi => h _ (by omega) (by omega))]
theorem chL_eq {g : Ge} {o : Nat} {σ σ' : Nat → Int32} (h0 : σ' 0 = σ 0) (h1 : σ' 1 = σ 1) (h : ∀ i, 56 ≤ i → i < 104 → σ' i = σ i) : chL g o σ' = chL g o σ := by
  unfold chL
  rw [h0, h1, vw_congr (b := 56) (s := 3) (n := 16) (fun i hi => h _ (by omega) (by omega)), vw_congr (b := 57) (s := 3) (n := 16) (fun i hi => h _ (by omega) (by omega)), vw_congr (b := 58) (s := 3) (n := 16) (fun i hi => h _ (by omega) (by omega))]
theorem raE_eq {σ σ' : Nat → Int32} (h3 : σ' 3 = σ 3) (h4 : σ' 4 = σ 4) : vw σ' 3 1 2 = vw σ 3 1 2 :=
  vw_congr (fun i hi => by rcases (show i = 0 ∨ i = 1 by omega) with rfl | rfl <;> assumption)
theorem goE_eq {o : Nat} {σ σ' : Nat → Int32} (h2 : σ' 2 = σ 2) (h5 : σ' 5 = σ 5) : goE o σ' = goE o σ := by unfold goE; rw [h2, h5]
theorem geL_eq {g : Ge} {o : Nat} {σ σ' : Nat → Int32} (h : ∀ i, (i < 6 ∨ 12 ≤ i) → i < 104 → σ' i = σ i) : geL g o σ' = geL g o σ := by
  unfold geL
  rw [goE_eq (h 2 (by omega) (by omega)) (h 5 (by omega) (by omega)), shL_eq (fun i h1 h2 => h i (by omega) (by omega)), thL_eq (fun i h1 h2 => h i (by omega) (by omega)), chL_eq (h 0 (by omega) (by omega)) (h 1 (by omega) (by omega)) (fun i h1 h2 => h i (by omega) (by omega)), raE_eq (h 3 (by omega) (by omega)) (h 4 (by omega) (by omega))]
theorem clL_eq {g : Ge} {o : Nat} {σ σ' ρ ρ' : Nat → Int32} (h7 : σ' 7 = σ 7) (h : ∀ i, i < 141 → ρ' i = ρ i) : clL g o σ' ρ' = clL g o σ ρ := by
  unfold clL
  rw [h7, h 140 (by omega)]
  rw [vw_congr (b := 0) (s := 7) (n := 20) (fun i hi => h _ (by omega)), vw_congr (b := 1) (s := 7) (n := 20) (fun i hi => h _ (by omega)), vw_congr (b := 2) (s := 7) (n := 20) (fun i hi => h _ (by omega)), vw_congr (b := 3) (s := 7) (n := 20) (fun i hi => h _ (by omega)), vw_congr (b := 4) (s := 7) (n := 20) (fun i hi => h _ (by omega)), vw_congr (b := 5) (s := 7) (n := 20) (fun i hi => h _ (by omega)), vw_congr (b := 6) (s := 7) (n := 20) (fun i hi => h _ (by omega))]
theorem loE_eq {o : Nat} {σ σ' : Nat → Int32} (h6 : σ' 6 = σ 6) (h : ∀ i, 8 ≤ i → i < 12 → σ' i = σ i) : loE o σ' = loE o σ := by
  unfold loE
  rw [h6, h 8 (by omega) (by omega), h 9 (by omega) (by omega), h 10 (by omega) (by omega), h 11 (by omega) (by omega)]
theorem loL_eq {g : Ge} {o : Nat} {σ σ' ρ ρ' : Nat → Int32} (h : ∀ i, i < 104 → σ' i = σ i) (hr : ∀ i, i < 141 → ρ' i = ρ i) : loL g o σ' ρ' = loL g o σ ρ := by
  unfold loL
  rw [loE_eq (h 6 (by omega)) (fun i h1 h2 => h i (by omega)), geL_eq (fun i h1 h2 => h i (by omega)), clL_eq (h 7 (by omega)) hr]
theorem geL_sh {g : Ge} {o : Nat} {σ σ' : Nat → Int32} (h : ∀ i, ¬ (12 ≤ i ∧ i < 32) → σ' i = σ i) : spl (geL g o σ) 1 (shL g (o + 1) σ') = geL g o σ' := by
  have e : spl (geL g o σ) 1 (shL g (o + 1) σ') = goE o σ :: (shL g (o + 1) σ' ++ (thL g (o + 6) σ ++ (chL g (o + 9) σ ++ [iA g 2 (vw σ 3 1 2)]))) := rfl
  rw [e, geL, goE_eq (h 2 (by omega)) (h 5 (by omega)), thL_eq (fun i h1 h2 => h i (by omega)), chL_eq (h 0 (by omega)) (h 1 (by omega)) (fun i h1 h2 => h i (by omega)), raE_eq (h 3 (by omega)) (h 4 (by omega))]
theorem geL_th {g : Ge} {o : Nat} {σ σ' : Nat → Int32} (h : ∀ i, ¬ (32 ≤ i ∧ i < 56) → σ' i = σ i) : spl (geL g o σ) 6 (thL g (o + 6) σ') = geL g o σ' := by
  have e : spl (geL g o σ) 6 (thL g (o + 6) σ') = goE o σ :: (shL g (o + 1) σ ++ (thL g (o + 6) σ' ++ (chL g (o + 9) σ ++ [iA g 2 (vw σ 3 1 2)]))) := rfl
  rw [e, geL, goE_eq (h 2 (by omega)) (h 5 (by omega)), shL_eq (fun i h1 h2 => h i (by omega)), chL_eq (h 0 (by omega)) (h 1 (by omega)) (fun i h1 h2 => h i (by omega)), raE_eq (h 3 (by omega)) (h 4 (by omega))]
theorem geL_ch {g : Ge} {o : Nat} {σ σ' : Nat → Int32} (h : ∀ i, ¬ (i < 2 ∨ 56 ≤ i) → σ' i = σ i) : spl (geL g o σ) 9 (chL g (o + 9) σ') = geL g o σ' := by
  have e : spl (geL g o σ) 9 (chL g (o + 9) σ') = goE o σ :: (shL g (o + 1) σ ++ (thL g (o + 6) σ ++ (chL g (o + 9) σ' ++ [iA g 2 (vw σ 3 1 2)]))) := rfl
  rw [e, geL, goE_eq (h 2 (by omega)) (h 5 (by omega)), shL_eq (fun i h1 h2 => h i (by omega)), thL_eq (fun i h1 h2 => h i (by omega)), raE_eq (h 3 (by omega)) (h 4 (by omega))]
theorem loL_ge {g : Ge} {o : Nat} {σ σ' ρ : Nat → Int32} (h : ∀ i, (6 ≤ i ∧ i < 12) → σ' i = σ i) : spl (loL g o σ ρ) 1 (geL g (o + 1) σ') = loL g o σ' ρ := by
  have e : spl (loL g o σ ρ) 1 (geL g (o + 1) σ') = loE o σ :: (geL g (o + 1) σ' ++ clL g (o + 15) σ ρ) := rfl
  rw [e, loL, loE_eq (h 6 (by omega)) (fun i h1 h2 => h i (by omega)), clL_eq (σ' := σ') (ρ' := ρ) (h 7 (by omega)) (fun _ _ => rfl)]
theorem loL_cl {g : Ge} {o : Nat} {σ σ' ρ ρ' : Nat → Int32} (h : ∀ i, i ≠ 7 → i < 104 → σ' i = σ i) : spl (loL g o σ ρ) 15 (clL g (o + 15) σ' ρ') = loL g o σ' ρ' := by
  have e : spl (loL g o σ ρ) 15 (clL g (o + 15) σ' ρ') = loE o σ :: (geL g (o + 1) σ ++ clL g (o + 15) σ' ρ') := rfl
  rw [e, loL, loE_eq (h 6 (by omega) (by omega)) (fun i h1 h2 => h i (by omega) (by omega)), geL_eq (fun i h1 h2 => h i (by omega) h2)]
theorem xL_now {g : Ge} {o : Nat} {σ σ' ρ ρ' : Nat → Int32} {S P : Nat → Nat → Int32} {φ φ' κ κ' τ π π' : Nat → Int32} : spl (xL g o σ ρ S P φ κ τ π) 1 (loL g (o + 1) σ' ρ') = xL g o σ' ρ' S P φ κ τ π := rfl
theorem xL_fc {g : Ge} {o : Nat} {σ σ' ρ ρ' : Nat → Int32} {S P : Nat → Nat → Int32} {φ φ' κ κ' τ π π' : Nat → Int32} : spl (xL g o σ ρ S P φ κ τ π) 25 (geL g (o + 25) φ') = xL g o σ ρ S P φ' κ τ π := rfl
theorem xL_rd {g : Ge} {o : Nat} {σ σ' ρ ρ' : Nat → Int32} {S P : Nat → Nat → Int32} {φ φ' κ κ' τ π π' : Nat → Int32} : spl (xL g o σ ρ S P φ κ τ π) 39 (rdL κ') = xL g o σ ρ S P φ κ' τ π := rfl
theorem s_sh1 {g : Ge} {o k : Nat} {σ : Nat → Int32} {v : Int32} (h : k < 5) : (shL g o σ).set 1 (iA g 5 (upd (vw σ 12 4 5) k v)) = shL g o (upd σ (12 + 4 * k) v) := by
  have e : (shL g o σ).set 1 (iA g 5 (upd (vw σ 12 4 5) k v)) = ([.inr (5, [.ref (o + 1), .ref (o + 2), .ref (o + 3), .ref (o + 4)]), iA g 5 (upd (vw σ 12 4 5) k v), iA g 5 (vw σ 13 4 5), iA g 5 (vw σ 14 4 5), iA g 5 (vw σ 15 4 5)] : List va_E) := rfl
  rw [e, shL, vw_st (by decide) h, vw_congr (σ := σ) (σ' := upd σ (12 + 4 * k) v) (b := 13) (s := 4) (n := 5) (fun i hi => pk_un (by omega)), vw_congr (σ := σ) (σ' := upd σ (12 + 4 * k) v) (b := 14) (s := 4) (n := 5) (fun i hi => pk_un (by omega)), vw_congr (σ := σ) (σ' := upd σ (12 + 4 * k) v) (b := 15) (s := 4) (n := 5) (fun i hi => pk_un (by omega))]
theorem s_sh2 {g : Ge} {o k : Nat} {σ : Nat → Int32} {v : Int32} (h : k < 5) : (shL g o σ).set 2 (iA g 5 (upd (vw σ 13 4 5) k v)) = shL g o (upd σ (13 + 4 * k) v) := by
  have e : (shL g o σ).set 2 (iA g 5 (upd (vw σ 13 4 5) k v)) = ([.inr (5, [.ref (o + 1), .ref (o + 2), .ref (o + 3), .ref (o + 4)]), iA g 5 (vw σ 12 4 5), iA g 5 (upd (vw σ 13 4 5) k v), iA g 5 (vw σ 14 4 5), iA g 5 (vw σ 15 4 5)] : List va_E) := rfl
  rw [e, shL, vw_st (by decide) h, vw_congr (σ := σ) (σ' := upd σ (13 + 4 * k) v) (b := 12) (s := 4) (n := 5) (fun i hi => pk_un (by omega)), vw_congr (σ := σ) (σ' := upd σ (13 + 4 * k) v) (b := 14) (s := 4) (n := 5) (fun i hi => pk_un (by omega)), vw_congr (σ := σ) (σ' := upd σ (13 + 4 * k) v) (b := 15) (s := 4) (n := 5) (fun i hi => pk_un (by omega))]
theorem s_sh3 {g : Ge} {o k : Nat} {σ : Nat → Int32} {v : Int32} (h : k < 5) : (shL g o σ).set 3 (iA g 5 (upd (vw σ 14 4 5) k v)) = shL g o (upd σ (14 + 4 * k) v) := by
  have e : (shL g o σ).set 3 (iA g 5 (upd (vw σ 14 4 5) k v)) = ([.inr (5, [.ref (o + 1), .ref (o + 2), .ref (o + 3), .ref (o + 4)]), iA g 5 (vw σ 12 4 5), iA g 5 (vw σ 13 4 5), iA g 5 (upd (vw σ 14 4 5) k v), iA g 5 (vw σ 15 4 5)] : List va_E) := rfl
  rw [e, shL, vw_st (by decide) h, vw_congr (σ := σ) (σ' := upd σ (14 + 4 * k) v) (b := 12) (s := 4) (n := 5) (fun i hi => pk_un (by omega)), vw_congr (σ := σ) (σ' := upd σ (14 + 4 * k) v) (b := 13) (s := 4) (n := 5) (fun i hi => pk_un (by omega)), vw_congr (σ := σ) (σ' := upd σ (14 + 4 * k) v) (b := 15) (s := 4) (n := 5) (fun i hi => pk_un (by omega))]
theorem s_sh4 {g : Ge} {o k : Nat} {σ : Nat → Int32} {v : Int32} (h : k < 5) : (shL g o σ).set 4 (iA g 5 (upd (vw σ 15 4 5) k v)) = shL g o (upd σ (15 + 4 * k) v) := by
  have e : (shL g o σ).set 4 (iA g 5 (upd (vw σ 15 4 5) k v)) = ([.inr (5, [.ref (o + 1), .ref (o + 2), .ref (o + 3), .ref (o + 4)]), iA g 5 (vw σ 12 4 5), iA g 5 (vw σ 13 4 5), iA g 5 (vw σ 14 4 5), iA g 5 (upd (vw σ 15 4 5) k v)] : List va_E) := rfl
  rw [e, shL, vw_st (by decide) h, vw_congr (σ := σ) (σ' := upd σ (15 + 4 * k) v) (b := 12) (s := 4) (n := 5) (fun i hi => pk_un (by omega)), vw_congr (σ := σ) (σ' := upd σ (15 + 4 * k) v) (b := 13) (s := 4) (n := 5) (fun i hi => pk_un (by omega)), vw_congr (σ := σ) (σ' := upd σ (15 + 4 * k) v) (b := 14) (s := 4) (n := 5) (fun i hi => pk_un (by omega))]
theorem s_th1 {g : Ge} {o k : Nat} {σ : Nat → Int32} {v : Int32} (h : k < 12) : (thL g o σ).set 1 (iA g 12 (upd (vw σ 32 2 12) k v)) = thL g o (upd σ (32 + 2 * k) v) := by
  have e : (thL g o σ).set 1 (iA g 12 (upd (vw σ 32 2 12) k v)) = ([.inr (6, [.ref (o + 1), .ref (o + 2)]), iA g 12 (upd (vw σ 32 2 12) k v), iA g 12 (vw σ 33 2 12)] : List va_E) := rfl
  rw [e, thL, vw_st (by decide) h, vw_congr (σ := σ) (σ' := upd σ (32 + 2 * k) v) (b := 33) (s := 2) (n := 12) (fun i hi => pk_un (by omega))]
theorem s_th2 {g : Ge} {o k : Nat} {σ : Nat → Int32} {v : Int32} (h : k < 12) : (thL g o σ).set 2 (iA g 12 (upd (vw σ 33 2 12) k v)) = thL g o (upd σ (33 + 2 * k) v) := by
  have e : (thL g o σ).set 2 (iA g 12 (upd (vw σ 33 2 12) k v)) = ([.inr (6, [.ref (o + 1), .ref (o + 2)]), iA g 12 (vw σ 32 2 12), iA g 12 (upd (vw σ 33 2 12) k v)] : List va_E) := rfl
  rw [e, thL, vw_st (by decide) h, vw_congr (σ := σ) (σ' := upd σ (33 + 2 * k) v) (b := 32) (s := 2) (n := 12) (fun i hi => pk_un (by omega))]
theorem s_ch1 {g : Ge} {o k : Nat} {σ : Nat → Int32} {v : Int32} (h : k < 16) : (chL g o σ).set 1 (iA g 16 (upd (vw σ 56 3 16) k v)) = chL g o (upd σ (56 + 3 * k) v) := by
  have e : (chL g o σ).set 1 (iA g 16 (upd (vw σ 56 3 16) k v)) = ([.inr (1, [.ref (o + 1), .ref (o + 2), .ref (o + 3), .int (σ 0), .int (σ 1)]), iA g 16 (upd (vw σ 56 3 16) k v), iA g 16 (vw σ 57 3 16), iA g 16 (vw σ 58 3 16)] : List va_E) := rfl
  rw [e, chL, vw_st (by decide) h, vw_congr (σ := σ) (σ' := upd σ (56 + 3 * k) v) (b := 57) (s := 3) (n := 16) (fun i hi => pk_un (by omega)), vw_congr (σ := σ) (σ' := upd σ (56 + 3 * k) v) (b := 58) (s := 3) (n := 16) (fun i hi => pk_un (by omega)), pk_un (f := σ) (x := v) (show 0 ≠ 56 + 3 * k by omega), pk_un (f := σ) (x := v) (show 1 ≠ 56 + 3 * k by omega)]
theorem s_ch2 {g : Ge} {o k : Nat} {σ : Nat → Int32} {v : Int32} (h : k < 16) : (chL g o σ).set 2 (iA g 16 (upd (vw σ 57 3 16) k v)) = chL g o (upd σ (57 + 3 * k) v) := by
  have e : (chL g o σ).set 2 (iA g 16 (upd (vw σ 57 3 16) k v)) = ([.inr (1, [.ref (o + 1), .ref (o + 2), .ref (o + 3), .int (σ 0), .int (σ 1)]), iA g 16 (vw σ 56 3 16), iA g 16 (upd (vw σ 57 3 16) k v), iA g 16 (vw σ 58 3 16)] : List va_E) := rfl
  rw [e, chL, vw_st (by decide) h, vw_congr (σ := σ) (σ' := upd σ (57 + 3 * k) v) (b := 56) (s := 3) (n := 16) (fun i hi => pk_un (by omega)), vw_congr (σ := σ) (σ' := upd σ (57 + 3 * k) v) (b := 58) (s := 3) (n := 16) (fun i hi => pk_un (by omega)), pk_un (f := σ) (x := v) (show 0 ≠ 57 + 3 * k by omega), pk_un (f := σ) (x := v) (show 1 ≠ 57 + 3 * k by omega)]
theorem s_ch3 {g : Ge} {o k : Nat} {σ : Nat → Int32} {v : Int32} (h : k < 16) : (chL g o σ).set 3 (iA g 16 (upd (vw σ 58 3 16) k v)) = chL g o (upd σ (58 + 3 * k) v) := by
  have e : (chL g o σ).set 3 (iA g 16 (upd (vw σ 58 3 16) k v)) = ([.inr (1, [.ref (o + 1), .ref (o + 2), .ref (o + 3), .int (σ 0), .int (σ 1)]), iA g 16 (vw σ 56 3 16), iA g 16 (vw σ 57 3 16), iA g 16 (upd (vw σ 58 3 16) k v)] : List va_E) := rfl
  rw [e, chL, vw_st (by decide) h, vw_congr (σ := σ) (σ' := upd σ (58 + 3 * k) v) (b := 56) (s := 3) (n := 16) (fun i hi => pk_un (by omega)), vw_congr (σ := σ) (σ' := upd σ (58 + 3 * k) v) (b := 57) (s := 3) (n := 16) (fun i hi => pk_un (by omega)), pk_un (f := σ) (x := v) (show 0 ≠ 58 + 3 * k by omega), pk_un (f := σ) (x := v) (show 1 ≠ 58 + 3 * k by omega)]
theorem s_ch_cards {g : Ge} {o : Nat} {σ : Nat → Int32} {v : Int32} : (chL g o σ).set 0 (.inr (1, [.ref (o + 1), .ref (o + 2), .ref (o + 3), .int v, .int (σ 1)])) = chL g o (upd σ 0 v) := by
  have e : (chL g o σ).set 0 (.inr (1, [.ref (o + 1), .ref (o + 2), .ref (o + 3), .int v, .int (σ 1)])) = ([.inr (1, [.ref (o + 1), .ref (o + 2), .ref (o + 3), .int v, .int (σ 1)]), iA g 16 (vw σ 56 3 16), iA g 16 (vw σ 57 3 16), iA g 16 (vw σ 58 3 16)] : List va_E) := rfl
  rw [e, chL, pk_us, pk_un (show 1 ≠ 0 by decide)]
  rw [vw_congr (σ := σ) (σ' := upd σ 0 v) (b := 56) (fun i hi => pk_un (by omega)), vw_congr (σ := σ) (σ' := upd σ 0 v) (b := 57) (fun i hi => pk_un (by omega)), vw_congr (σ := σ) (σ' := upd σ 0 v) (b := 58) (fun i hi => pk_un (by omega))]
theorem s_ch_place {g : Ge} {o : Nat} {σ : Nat → Int32} {v : Int32} : (chL g o σ).set 0 (.inr (1, [.ref (o + 1), .ref (o + 2), .ref (o + 3), .int (σ 0), .int v])) = chL g o (upd σ 1 v) := by
  have e : (chL g o σ).set 0 (.inr (1, [.ref (o + 1), .ref (o + 2), .ref (o + 3), .int (σ 0), .int v])) = ([.inr (1, [.ref (o + 1), .ref (o + 2), .ref (o + 3), .int (σ 0), .int v]), iA g 16 (vw σ 56 3 16), iA g 16 (vw σ 57 3 16), iA g 16 (vw σ 58 3 16)] : List va_E) := rfl
  rw [e, chL, pk_us, pk_un (show 0 ≠ 1 by decide)]
  rw [vw_congr (σ := σ) (σ' := upd σ 1 v) (b := 56) (fun i hi => pk_un (by omega)), vw_congr (σ := σ) (σ' := upd σ 1 v) (b := 57) (fun i hi => pk_un (by omega)), vw_congr (σ := σ) (σ' := upd σ 1 v) (b := 58) (fun i hi => pk_un (by omega))]
theorem s_ge_race {g : Ge} {o k : Nat} {σ : Nat → Int32} {v : Int32} (h : k < 2) : (geL g o σ).set 13 (iA g 2 (upd (vw σ 3 1 2) k v)) = geL g o (upd σ (3 + 1 * k) v) := by
  have e : (geL g o σ).set 13 (iA g 2 (upd (vw σ 3 1 2) k v)) = goE o σ :: (shL g (o + 1) σ ++ (thL g (o + 6) σ ++ (chL g (o + 9) σ ++ [iA g 2 (upd (vw σ 3 1 2) k v)]))) := rfl
  rw [e, geL, vw_st (by decide) h, goE_eq (σ := σ) (σ' := upd σ (3 + 1 * k) v) (pk_un (by omega)) (pk_un (by omega)), shL_eq (σ := σ) (σ' := upd σ (3 + 1 * k) v) (fun i h1 h2 => pk_un (by omega)), thL_eq (σ := σ) (σ' := upd σ (3 + 1 * k) v) (fun i h1 h2 => pk_un (by omega)), chL_eq (σ := σ) (σ' := upd σ (3 + 1 * k) v) (pk_un (by omega)) (pk_un (by omega)) (fun i h1 h2 => pk_un (by omega))]
theorem s_ge_speed {g : Ge} {o : Nat} {σ : Nat → Int32} {v : Int32} : (geL g o σ).set 0 (.inr (3, [.ref (o + 1), .ref (o + 6), .ref (o + 9), .ref (o + 13), .int v, .int (σ 5)])) = geL g o (upd σ 2 v) := by
  have e : (geL g o σ).set 0 (.inr (3, [.ref (o + 1), .ref (o + 6), .ref (o + 9), .ref (o + 13), .int v, .int (σ 5)])) = goE o (upd σ 2 v) :: (shL g (o + 1) σ ++ (thL g (o + 6) σ ++ (chL g (o + 9) σ ++ [iA g 2 (vw σ 3 1 2)]))) := rfl
  rw [e, geL, shL_eq (σ := σ) (σ' := upd σ 2 v) (fun i h1 h2 => pk_un (by omega)), thL_eq (σ := σ) (σ' := upd σ 2 v) (fun i h1 h2 => pk_un (by omega)), chL_eq (σ := σ) (σ' := upd σ 2 v) (pk_un (by omega)) (pk_un (by omega)) (fun i h1 h2 => pk_un (by omega)), raE_eq (σ := σ) (σ' := upd σ 2 v) (pk_un (by omega)) (pk_un (by omega))]
theorem s_ge_lifted {g : Ge} {o : Nat} {σ : Nat → Int32} {v : Int32} : (geL g o σ).set 0 (.inr (3, [.ref (o + 1), .ref (o + 6), .ref (o + 9), .ref (o + 13), .int (σ 2), .int v])) = geL g o (upd σ 5 v) := by
  have e : (geL g o σ).set 0 (.inr (3, [.ref (o + 1), .ref (o + 6), .ref (o + 9), .ref (o + 13), .int (σ 2), .int v])) = goE o (upd σ 5 v) :: (shL g (o + 1) σ ++ (thL g (o + 6) σ ++ (chL g (o + 9) σ ++ [iA g 2 (vw σ 3 1 2)]))) := rfl
  rw [e, geL, shL_eq (σ := σ) (σ' := upd σ 5 v) (fun i h1 h2 => pk_un (by omega)), thL_eq (σ := σ) (σ' := upd σ 5 v) (fun i h1 h2 => pk_un (by omega)), chL_eq (σ := σ) (σ' := upd σ 5 v) (pk_un (by omega)) (pk_un (by omega)) (fun i h1 h2 => pk_un (by omega)), raE_eq (σ := σ) (σ' := upd σ 5 v) (pk_un (by omega)) (pk_un (by omega))]
theorem s_cl1 {g : Ge} {o k : Nat} {σ ρ : Nat → Int32} {v : Int32} (h : k < 20) : (clL g o σ ρ).set 1 (iA g 20 (upd (vw ρ 0 7 20) k v)) = clL g o σ (upd ρ (0 + 7 * k) v) := by
  have e : (clL g o σ ρ).set 1 (iA g 20 (upd (vw ρ 0 7 20) k v)) = ([.inr (2, [.ref (o + 1), .ref (o + 2), .ref (o + 3), .ref (o + 4), .ref (o + 5), .ref (o + 6), .ref (o + 7), .int (σ 7), .int (ρ 140)]), iA g 20 (upd (vw ρ 0 7 20) k v), iA g 20 (vw ρ 1 7 20), iA g 20 (vw ρ 2 7 20), iA g 20 (vw ρ 3 7 20), iA g 20 (vw ρ 4 7 20), iA g 20 (vw ρ 5 7 20), iA g 20 (vw ρ 6 7 20)] : List va_E) := rfl
  rw [e, clL, vw_st (by decide) h, vw_congr (σ := ρ) (σ' := upd ρ (0 + 7 * k) v) (b := 1) (s := 7) (n := 20) (fun i hi => pk_un (by omega)), vw_congr (σ := ρ) (σ' := upd ρ (0 + 7 * k) v) (b := 2) (s := 7) (n := 20) (fun i hi => pk_un (by omega)), vw_congr (σ := ρ) (σ' := upd ρ (0 + 7 * k) v) (b := 3) (s := 7) (n := 20) (fun i hi => pk_un (by omega)), vw_congr (σ := ρ) (σ' := upd ρ (0 + 7 * k) v) (b := 4) (s := 7) (n := 20) (fun i hi => pk_un (by omega)), vw_congr (σ := ρ) (σ' := upd ρ (0 + 7 * k) v) (b := 5) (s := 7) (n := 20) (fun i hi => pk_un (by omega)), vw_congr (σ := ρ) (σ' := upd ρ (0 + 7 * k) v) (b := 6) (s := 7) (n := 20) (fun i hi => pk_un (by omega)), pk_un (f := ρ) (x := v) (show 140 ≠ 0 + 7 * k by omega)]
theorem s_cl2 {g : Ge} {o k : Nat} {σ ρ : Nat → Int32} {v : Int32} (h : k < 20) : (clL g o σ ρ).set 2 (iA g 20 (upd (vw ρ 1 7 20) k v)) = clL g o σ (upd ρ (1 + 7 * k) v) := by
  have e : (clL g o σ ρ).set 2 (iA g 20 (upd (vw ρ 1 7 20) k v)) = ([.inr (2, [.ref (o + 1), .ref (o + 2), .ref (o + 3), .ref (o + 4), .ref (o + 5), .ref (o + 6), .ref (o + 7), .int (σ 7), .int (ρ 140)]), iA g 20 (vw ρ 0 7 20), iA g 20 (upd (vw ρ 1 7 20) k v), iA g 20 (vw ρ 2 7 20), iA g 20 (vw ρ 3 7 20), iA g 20 (vw ρ 4 7 20), iA g 20 (vw ρ 5 7 20), iA g 20 (vw ρ 6 7 20)] : List va_E) := rfl
  rw [e, clL, vw_st (by decide) h, vw_congr (σ := ρ) (σ' := upd ρ (1 + 7 * k) v) (b := 0) (s := 7) (n := 20) (fun i hi => pk_un (by omega)), vw_congr (σ := ρ) (σ' := upd ρ (1 + 7 * k) v) (b := 2) (s := 7) (n := 20) (fun i hi => pk_un (by omega)), vw_congr (σ := ρ) (σ' := upd ρ (1 + 7 * k) v) (b := 3) (s := 7) (n := 20) (fun i hi => pk_un (by omega)), vw_congr (σ := ρ) (σ' := upd ρ (1 + 7 * k) v) (b := 4) (s := 7) (n := 20) (fun i hi => pk_un (by omega)), vw_congr (σ := ρ) (σ' := upd ρ (1 + 7 * k) v) (b := 5) (s := 7) (n := 20) (fun i hi => pk_un (by omega)), vw_congr (σ := ρ) (σ' := upd ρ (1 + 7 * k) v) (b := 6) (s := 7) (n := 20) (fun i hi => pk_un (by omega)), pk_un (f := ρ) (x := v) (show 140 ≠ 1 + 7 * k by omega)]
theorem s_cl3 {g : Ge} {o k : Nat} {σ ρ : Nat → Int32} {v : Int32} (h : k < 20) : (clL g o σ ρ).set 3 (iA g 20 (upd (vw ρ 2 7 20) k v)) = clL g o σ (upd ρ (2 + 7 * k) v) := by
  have e : (clL g o σ ρ).set 3 (iA g 20 (upd (vw ρ 2 7 20) k v)) = ([.inr (2, [.ref (o + 1), .ref (o + 2), .ref (o + 3), .ref (o + 4), .ref (o + 5), .ref (o + 6), .ref (o + 7), .int (σ 7), .int (ρ 140)]), iA g 20 (vw ρ 0 7 20), iA g 20 (vw ρ 1 7 20), iA g 20 (upd (vw ρ 2 7 20) k v), iA g 20 (vw ρ 3 7 20), iA g 20 (vw ρ 4 7 20), iA g 20 (vw ρ 5 7 20), iA g 20 (vw ρ 6 7 20)] : List va_E) := rfl
  rw [e, clL, vw_st (by decide) h, vw_congr (σ := ρ) (σ' := upd ρ (2 + 7 * k) v) (b := 0) (s := 7) (n := 20) (fun i hi => pk_un (by omega)), vw_congr (σ := ρ) (σ' := upd ρ (2 + 7 * k) v) (b := 1) (s := 7) (n := 20) (fun i hi => pk_un (by omega)), vw_congr (σ := ρ) (σ' := upd ρ (2 + 7 * k) v) (b := 3) (s := 7) (n := 20) (fun i hi => pk_un (by omega)), vw_congr (σ := ρ) (σ' := upd ρ (2 + 7 * k) v) (b := 4) (s := 7) (n := 20) (fun i hi => pk_un (by omega)), vw_congr (σ := ρ) (σ' := upd ρ (2 + 7 * k) v) (b := 5) (s := 7) (n := 20) (fun i hi => pk_un (by omega)), vw_congr (σ := ρ) (σ' := upd ρ (2 + 7 * k) v) (b := 6) (s := 7) (n := 20) (fun i hi => pk_un (by omega)), pk_un (f := ρ) (x := v) (show 140 ≠ 2 + 7 * k by omega)]
theorem s_cl4 {g : Ge} {o k : Nat} {σ ρ : Nat → Int32} {v : Int32} (h : k < 20) : (clL g o σ ρ).set 4 (iA g 20 (upd (vw ρ 3 7 20) k v)) = clL g o σ (upd ρ (3 + 7 * k) v) := by
  have e : (clL g o σ ρ).set 4 (iA g 20 (upd (vw ρ 3 7 20) k v)) = ([.inr (2, [.ref (o + 1), .ref (o + 2), .ref (o + 3), .ref (o + 4), .ref (o + 5), .ref (o + 6), .ref (o + 7), .int (σ 7), .int (ρ 140)]), iA g 20 (vw ρ 0 7 20), iA g 20 (vw ρ 1 7 20), iA g 20 (vw ρ 2 7 20), iA g 20 (upd (vw ρ 3 7 20) k v), iA g 20 (vw ρ 4 7 20), iA g 20 (vw ρ 5 7 20), iA g 20 (vw ρ 6 7 20)] : List va_E) := rfl
  rw [e, clL, vw_st (by decide) h, vw_congr (σ := ρ) (σ' := upd ρ (3 + 7 * k) v) (b := 0) (s := 7) (n := 20) (fun i hi => pk_un (by omega)), vw_congr (σ := ρ) (σ' := upd ρ (3 + 7 * k) v) (b := 1) (s := 7) (n := 20) (fun i hi => pk_un (by omega)), vw_congr (σ := ρ) (σ' := upd ρ (3 + 7 * k) v) (b := 2) (s := 7) (n := 20) (fun i hi => pk_un (by omega)), vw_congr (σ := ρ) (σ' := upd ρ (3 + 7 * k) v) (b := 4) (s := 7) (n := 20) (fun i hi => pk_un (by omega)), vw_congr (σ := ρ) (σ' := upd ρ (3 + 7 * k) v) (b := 5) (s := 7) (n := 20) (fun i hi => pk_un (by omega)), vw_congr (σ := ρ) (σ' := upd ρ (3 + 7 * k) v) (b := 6) (s := 7) (n := 20) (fun i hi => pk_un (by omega)), pk_un (f := ρ) (x := v) (show 140 ≠ 3 + 7 * k by omega)]
theorem s_cl5 {g : Ge} {o k : Nat} {σ ρ : Nat → Int32} {v : Int32} (h : k < 20) : (clL g o σ ρ).set 5 (iA g 20 (upd (vw ρ 4 7 20) k v)) = clL g o σ (upd ρ (4 + 7 * k) v) := by
  have e : (clL g o σ ρ).set 5 (iA g 20 (upd (vw ρ 4 7 20) k v)) = ([.inr (2, [.ref (o + 1), .ref (o + 2), .ref (o + 3), .ref (o + 4), .ref (o + 5), .ref (o + 6), .ref (o + 7), .int (σ 7), .int (ρ 140)]), iA g 20 (vw ρ 0 7 20), iA g 20 (vw ρ 1 7 20), iA g 20 (vw ρ 2 7 20), iA g 20 (vw ρ 3 7 20), iA g 20 (upd (vw ρ 4 7 20) k v), iA g 20 (vw ρ 5 7 20), iA g 20 (vw ρ 6 7 20)] : List va_E) := rfl
  rw [e, clL, vw_st (by decide) h, vw_congr (σ := ρ) (σ' := upd ρ (4 + 7 * k) v) (b := 0) (s := 7) (n := 20) (fun i hi => pk_un (by omega)), vw_congr (σ := ρ) (σ' := upd ρ (4 + 7 * k) v) (b := 1) (s := 7) (n := 20) (fun i hi => pk_un (by omega)), vw_congr (σ := ρ) (σ' := upd ρ (4 + 7 * k) v) (b := 2) (s := 7) (n := 20) (fun i hi => pk_un (by omega)), vw_congr (σ := ρ) (σ' := upd ρ (4 + 7 * k) v) (b := 3) (s := 7) (n := 20) (fun i hi => pk_un (by omega)), vw_congr (σ := ρ) (σ' := upd ρ (4 + 7 * k) v) (b := 5) (s := 7) (n := 20) (fun i hi => pk_un (by omega)), vw_congr (σ := ρ) (σ' := upd ρ (4 + 7 * k) v) (b := 6) (s := 7) (n := 20) (fun i hi => pk_un (by omega)), pk_un (f := ρ) (x := v) (show 140 ≠ 4 + 7 * k by omega)]
theorem s_cl6 {g : Ge} {o k : Nat} {σ ρ : Nat → Int32} {v : Int32} (h : k < 20) : (clL g o σ ρ).set 6 (iA g 20 (upd (vw ρ 5 7 20) k v)) = clL g o σ (upd ρ (5 + 7 * k) v) := by
  have e : (clL g o σ ρ).set 6 (iA g 20 (upd (vw ρ 5 7 20) k v)) = ([.inr (2, [.ref (o + 1), .ref (o + 2), .ref (o + 3), .ref (o + 4), .ref (o + 5), .ref (o + 6), .ref (o + 7), .int (σ 7), .int (ρ 140)]), iA g 20 (vw ρ 0 7 20), iA g 20 (vw ρ 1 7 20), iA g 20 (vw ρ 2 7 20), iA g 20 (vw ρ 3 7 20), iA g 20 (vw ρ 4 7 20), iA g 20 (upd (vw ρ 5 7 20) k v), iA g 20 (vw ρ 6 7 20)] : List va_E) := rfl
  rw [e, clL, vw_st (by decide) h, vw_congr (σ := ρ) (σ' := upd ρ (5 + 7 * k) v) (b := 0) (s := 7) (n := 20) (fun i hi => pk_un (by omega)), vw_congr (σ := ρ) (σ' := upd ρ (5 + 7 * k) v) (b := 1) (s := 7) (n := 20) (fun i hi => pk_un (by omega)), vw_congr (σ := ρ) (σ' := upd ρ (5 + 7 * k) v) (b := 2) (s := 7) (n := 20) (fun i hi => pk_un (by omega)), vw_congr (σ := ρ) (σ' := upd ρ (5 + 7 * k) v) (b := 3) (s := 7) (n := 20) (fun i hi => pk_un (by omega)), vw_congr (σ := ρ) (σ' := upd ρ (5 + 7 * k) v) (b := 4) (s := 7) (n := 20) (fun i hi => pk_un (by omega)), vw_congr (σ := ρ) (σ' := upd ρ (5 + 7 * k) v) (b := 6) (s := 7) (n := 20) (fun i hi => pk_un (by omega)), pk_un (f := ρ) (x := v) (show 140 ≠ 5 + 7 * k by omega)]
theorem s_cl7 {g : Ge} {o k : Nat} {σ ρ : Nat → Int32} {v : Int32} (h : k < 20) : (clL g o σ ρ).set 7 (iA g 20 (upd (vw ρ 6 7 20) k v)) = clL g o σ (upd ρ (6 + 7 * k) v) := by
  have e : (clL g o σ ρ).set 7 (iA g 20 (upd (vw ρ 6 7 20) k v)) = ([.inr (2, [.ref (o + 1), .ref (o + 2), .ref (o + 3), .ref (o + 4), .ref (o + 5), .ref (o + 6), .ref (o + 7), .int (σ 7), .int (ρ 140)]), iA g 20 (vw ρ 0 7 20), iA g 20 (vw ρ 1 7 20), iA g 20 (vw ρ 2 7 20), iA g 20 (vw ρ 3 7 20), iA g 20 (vw ρ 4 7 20), iA g 20 (vw ρ 5 7 20), iA g 20 (upd (vw ρ 6 7 20) k v)] : List va_E) := rfl
  rw [e, clL, vw_st (by decide) h, vw_congr (σ := ρ) (σ' := upd ρ (6 + 7 * k) v) (b := 0) (s := 7) (n := 20) (fun i hi => pk_un (by omega)), vw_congr (σ := ρ) (σ' := upd ρ (6 + 7 * k) v) (b := 1) (s := 7) (n := 20) (fun i hi => pk_un (by omega)), vw_congr (σ := ρ) (σ' := upd ρ (6 + 7 * k) v) (b := 2) (s := 7) (n := 20) (fun i hi => pk_un (by omega)), vw_congr (σ := ρ) (σ' := upd ρ (6 + 7 * k) v) (b := 3) (s := 7) (n := 20) (fun i hi => pk_un (by omega)), vw_congr (σ := ρ) (σ' := upd ρ (6 + 7 * k) v) (b := 4) (s := 7) (n := 20) (fun i hi => pk_un (by omega)), vw_congr (σ := ρ) (σ' := upd ρ (6 + 7 * k) v) (b := 5) (s := 7) (n := 20) (fun i hi => pk_un (by omega)), pk_un (f := ρ) (x := v) (show 140 ≠ 6 + 7 * k by omega)]
theorem s_cl_rows {g : Ge} {o : Nat} {σ ρ : Nat → Int32} {v : Int32} : (clL g o σ ρ).set 0 (.inr (2, [.ref (o + 1), .ref (o + 2), .ref (o + 3), .ref (o + 4), .ref (o + 5), .ref (o + 6), .ref (o + 7), .int (v), .int (ρ 140)])) = clL g o (upd σ 7 v) ρ := rfl
theorem s_cl_latest {g : Ge} {o : Nat} {σ ρ : Nat → Int32} {v : Int32} : (clL g o σ ρ).set 0 (.inr (2, [.ref (o + 1), .ref (o + 2), .ref (o + 3), .ref (o + 4), .ref (o + 5), .ref (o + 6), .ref (o + 7), .int (σ 7), .int (v)])) = clL g o σ (upd ρ 140 v) := by
  have e : (clL g o σ ρ).set 0 (.inr (2, [.ref (o + 1), .ref (o + 2), .ref (o + 3), .ref (o + 4), .ref (o + 5), .ref (o + 6), .ref (o + 7), .int (σ 7), .int (v)])) = .inr (2, [.ref (o + 1), .ref (o + 2), .ref (o + 3), .ref (o + 4), .ref (o + 5), .ref (o + 6), .ref (o + 7), .int (σ 7), .int (v)]) :: (clL g o σ ρ).tail := rfl
  rw [e, clL, clL, pk_us]
  rw [vw_congr (σ := ρ) (σ' := upd ρ 140 v) (b := 0) (s := 7) (n := 20) (fun i hi => pk_un (by omega)), vw_congr (σ := ρ) (σ' := upd ρ 140 v) (b := 1) (s := 7) (n := 20) (fun i hi => pk_un (by omega)), vw_congr (σ := ρ) (σ' := upd ρ 140 v) (b := 2) (s := 7) (n := 20) (fun i hi => pk_un (by omega)), vw_congr (σ := ρ) (σ' := upd ρ 140 v) (b := 3) (s := 7) (n := 20) (fun i hi => pk_un (by omega)), vw_congr (σ := ρ) (σ' := upd ρ 140 v) (b := 4) (s := 7) (n := 20) (fun i hi => pk_un (by omega)), vw_congr (σ := ρ) (σ' := upd ρ 140 v) (b := 5) (s := 7) (n := 20) (fun i hi => pk_un (by omega)), vw_congr (σ := ρ) (σ' := upd ρ 140 v) (b := 6) (s := 7) (n := 20) (fun i hi => pk_un (by omega))]
  rfl
theorem s_lo6 {g : Ge} {o : Nat} {σ ρ : Nat → Int32} {v : Int32} : (loL g o σ ρ).set 0 (.inr (4, [.ref (o + 1), .ref (o + 15), .int (v), .int (σ 8), .int (σ 9), .int (σ 10), .int (σ 11)])) = loL g o (upd σ 6 v) ρ := by
  have e : (loL g o σ ρ).set 0 (.inr (4, [.ref (o + 1), .ref (o + 15), .int (v), .int (σ 8), .int (σ 9), .int (σ 10), .int (σ 11)])) = loE o (upd σ 6 v) :: (geL g (o + 1) σ ++ clL g (o + 15) σ ρ) := rfl
  rw [e, loL, geL_eq (σ := σ) (σ' := upd σ 6 v) (fun i h1 h2 => pk_un (by omega)), clL_eq (σ := σ) (σ' := upd σ 6 v) (ρ' := ρ) (pk_un (by omega)) (fun _ _ => rfl)]
theorem s_lo8 {g : Ge} {o : Nat} {σ ρ : Nat → Int32} {v : Int32} : (loL g o σ ρ).set 0 (.inr (4, [.ref (o + 1), .ref (o + 15), .int (σ 6), .int (v), .int (σ 9), .int (σ 10), .int (σ 11)])) = loL g o (upd σ 8 v) ρ := by
  have e : (loL g o σ ρ).set 0 (.inr (4, [.ref (o + 1), .ref (o + 15), .int (σ 6), .int (v), .int (σ 9), .int (σ 10), .int (σ 11)])) = loE o (upd σ 8 v) :: (geL g (o + 1) σ ++ clL g (o + 15) σ ρ) := rfl
  rw [e, loL, geL_eq (σ := σ) (σ' := upd σ 8 v) (fun i h1 h2 => pk_un (by omega)), clL_eq (σ := σ) (σ' := upd σ 8 v) (ρ' := ρ) (pk_un (by omega)) (fun _ _ => rfl)]
theorem s_lo9 {g : Ge} {o : Nat} {σ ρ : Nat → Int32} {v : Int32} : (loL g o σ ρ).set 0 (.inr (4, [.ref (o + 1), .ref (o + 15), .int (σ 6), .int (σ 8), .int (v), .int (σ 10), .int (σ 11)])) = loL g o (upd σ 9 v) ρ := by
  have e : (loL g o σ ρ).set 0 (.inr (4, [.ref (o + 1), .ref (o + 15), .int (σ 6), .int (σ 8), .int (v), .int (σ 10), .int (σ 11)])) = loE o (upd σ 9 v) :: (geL g (o + 1) σ ++ clL g (o + 15) σ ρ) := rfl
  rw [e, loL, geL_eq (σ := σ) (σ' := upd σ 9 v) (fun i h1 h2 => pk_un (by omega)), clL_eq (σ := σ) (σ' := upd σ 9 v) (ρ' := ρ) (pk_un (by omega)) (fun _ _ => rfl)]
theorem s_lo10 {g : Ge} {o : Nat} {σ ρ : Nat → Int32} {v : Int32} : (loL g o σ ρ).set 0 (.inr (4, [.ref (o + 1), .ref (o + 15), .int (σ 6), .int (σ 8), .int (σ 9), .int (v), .int (σ 11)])) = loL g o (upd σ 10 v) ρ := by
  have e : (loL g o σ ρ).set 0 (.inr (4, [.ref (o + 1), .ref (o + 15), .int (σ 6), .int (σ 8), .int (σ 9), .int (v), .int (σ 11)])) = loE o (upd σ 10 v) :: (geL g (o + 1) σ ++ clL g (o + 15) σ ρ) := rfl
  rw [e, loL, geL_eq (σ := σ) (σ' := upd σ 10 v) (fun i h1 h2 => pk_un (by omega)), clL_eq (σ := σ) (σ' := upd σ 10 v) (ρ' := ρ) (pk_un (by omega)) (fun _ _ => rfl)]
theorem s_lo11 {g : Ge} {o : Nat} {σ ρ : Nat → Int32} {v : Int32} : (loL g o σ ρ).set 0 (.inr (4, [.ref (o + 1), .ref (o + 15), .int (σ 6), .int (σ 8), .int (σ 9), .int (σ 10), .int (v)])) = loL g o (upd σ 11 v) ρ := by
  have e : (loL g o σ ρ).set 0 (.inr (4, [.ref (o + 1), .ref (o + 15), .int (σ 6), .int (σ 8), .int (σ 9), .int (σ 10), .int (v)])) = loE o (upd σ 11 v) :: (geL g (o + 1) σ ++ clL g (o + 15) σ ρ) := rfl
  rw [e, loL, geL_eq (σ := σ) (σ' := upd σ 11 v) (fun i h1 h2 => pk_un (by omega)), clL_eq (σ := σ) (σ' := upd σ 11 v) (ρ' := ρ) (pk_un (by omega)) (fun _ _ => rfl)]
end
section
theorem ix_add {a b : Int32} {x y : Nat} (ha : a = nI x) (hb : b = nI y) : a + b = nI (x + y) := by rw [ha, hb, nI_add]
theorem ix_mul {a b : Int32} {x y : Nat} (ha : a = nI x) (hb : b = nI y) : a * b = nI (x * y) := by rw [ha, hb, pk_mul]
theorem ix_inc {a : Int32} {x : Nat} (ha : a = nI x) : a + Int32.ofInt 1 = nI (x + 1) := by rw [ha, nI_succ]; rfl
theorem ix_dec {a : Int32} {x : Nat} (ha : a = nI (x + 1)) : a + Int32.ofInt (-1) = nI x := by rw [ha]; exact pk_m1 x
theorem nI_cases {x : Int32} {n : Nat} (hn : n < 2 ^ 31) (h0 : 0 ≤ x) (h1 : x ≤ nI n) : ∃ k : Nat, k < n + 1 ∧ x = nI k := by
  have h : ¬ x < 0 := by
    intro h
    exact absurd h0 (Int32.not_le.mpr h)
  obtain ⟨j, hj, e⟩ := nI_of h
  refine ⟨j, ?_, e⟩
  rw [e] at h1
  have := (nI_leI hj hn).mp h1
  omega
theorem w_sh_1 {g : Ge} {o k : Nat} {σ : Nat → Int32} {v : Int32} (h : k < 5) : (shL g o σ).set 1 (iA g 5 (upd (vw σ 12 4 5) k v)) = shL g o (upd σ (12 + 4 * k) v) := s_sh1 h
theorem w_sh_2 {g : Ge} {o k : Nat} {σ : Nat → Int32} {v : Int32} (h : k < 5) : (shL g o σ).set 2 (iA g 5 (upd (vw σ 13 4 5) k v)) = shL g o (upd σ (13 + 4 * k) v) := s_sh2 h
theorem w_sh_3 {g : Ge} {o k : Nat} {σ : Nat → Int32} {v : Int32} (h : k < 5) : (shL g o σ).set 3 (iA g 5 (upd (vw σ 14 4 5) k v)) = shL g o (upd σ (14 + 4 * k) v) := s_sh3 h
theorem w_sh_4 {g : Ge} {o k : Nat} {σ : Nat → Int32} {v : Int32} (h : k < 5) : (shL g o σ).set 4 (iA g 5 (upd (vw σ 15 4 5) k v)) = shL g o (upd σ (15 + 4 * k) v) := s_sh4 h
theorem w_th_1 {g : Ge} {o k : Nat} {σ : Nat → Int32} {v : Int32} (h : k < 12) : (thL g o σ).set 1 (iA g 12 (upd (vw σ 32 2 12) k v)) = thL g o (upd σ (32 + 2 * k) v) := s_th1 h
theorem w_th_2 {g : Ge} {o k : Nat} {σ : Nat → Int32} {v : Int32} (h : k < 12) : (thL g o σ).set 2 (iA g 12 (upd (vw σ 33 2 12) k v)) = thL g o (upd σ (33 + 2 * k) v) := s_th2 h
theorem w_ch_1 {g : Ge} {o k : Nat} {σ : Nat → Int32} {v : Int32} (h : k < 16) : (chL g o σ).set 1 (iA g 16 (upd (vw σ 56 3 16) k v)) = chL g o (upd σ (56 + 3 * k) v) := s_ch1 h
theorem w_ch_2 {g : Ge} {o k : Nat} {σ : Nat → Int32} {v : Int32} (h : k < 16) : (chL g o σ).set 2 (iA g 16 (upd (vw σ 57 3 16) k v)) = chL g o (upd σ (57 + 3 * k) v) := s_ch2 h
theorem w_ch_3 {g : Ge} {o k : Nat} {σ : Nat → Int32} {v : Int32} (h : k < 16) : (chL g o σ).set 3 (iA g 16 (upd (vw σ 58 3 16) k v)) = chL g o (upd σ (58 + 3 * k) v) := s_ch3 h
theorem w_ch_0_cards {g : Ge} {o : Nat} {σ : Nat → Int32} {v : Int32} : (chL g o σ).set 0 (.inr (1, [.ref (o + 1), .ref (o + 2), .ref (o + 3), .int (v), .int (σ 1)])) = chL g o (upd σ 0 v) := s_ch_cards
theorem w_ch_0_place {g : Ge} {o : Nat} {σ : Nat → Int32} {v : Int32} : (chL g o σ).set 0 (.inr (1, [.ref (o + 1), .ref (o + 2), .ref (o + 3), .int (σ 0), .int (v)])) = chL g o (upd σ 1 v) := s_ch_place
theorem w_ge_0_speed {g : Ge} {o : Nat} {σ : Nat → Int32} {v : Int32} : (geL g o σ).set 0 (.inr (3, [.ref (o + 1), .ref (o + 6), .ref (o + 9), .ref (o + 13), .int (v), .int (σ 5)])) = geL g o (upd σ 2 v) := s_ge_speed
theorem w_ge_0_lifted {g : Ge} {o : Nat} {σ : Nat → Int32} {v : Int32} : (geL g o σ).set 0 (.inr (3, [.ref (o + 1), .ref (o + 6), .ref (o + 9), .ref (o + 13), .int (σ 2), .int (v)])) = geL g o (upd σ 5 v) := s_ge_lifted
theorem w_ge_13 {g : Ge} {o k : Nat} {σ : Nat → Int32} {v : Int32} (h : k < 2) : (geL g o σ).set 13 (iA g 2 (upd (vw σ 3 1 2) k v)) = geL g o (upd σ (3 + 1 * k) v) := s_ge_race h
theorem w_ge_2 {g : Ge} {o k : Nat} {σ : Nat → Int32} {v : Int32} (h : k < 5) : (geL g o σ).set 2 (iA g 5 (upd (vw σ 12 4 5) k v)) = geL g o (upd σ (12 + 4 * k) v) := by
  have e : (geL g o σ).set 2 (iA g 5 (upd (vw σ 12 4 5) k v)) = spl (geL g o σ) 1 ((shL g (o + 1) σ).set 1 (iA g 5 (upd (vw σ 12 4 5) k v))) := rfl
  rw [e, w_sh_1 h]
  exact geL_sh (fun i hi => pk_un (by omega))
theorem w_ge_3 {g : Ge} {o k : Nat} {σ : Nat → Int32} {v : Int32} (h : k < 5) : (geL g o σ).set 3 (iA g 5 (upd (vw σ 13 4 5) k v)) = geL g o (upd σ (13 + 4 * k) v) := by
  have e : (geL g o σ).set 3 (iA g 5 (upd (vw σ 13 4 5) k v)) = spl (geL g o σ) 1 ((shL g (o + 1) σ).set 2 (iA g 5 (upd (vw σ 13 4 5) k v))) := rfl
  rw [e, w_sh_2 h]
  exact geL_sh (fun i hi => pk_un (by omega))
theorem w_ge_4 {g : Ge} {o k : Nat} {σ : Nat → Int32} {v : Int32} (h : k < 5) : (geL g o σ).set 4 (iA g 5 (upd (vw σ 14 4 5) k v)) = geL g o (upd σ (14 + 4 * k) v) := by
  have e : (geL g o σ).set 4 (iA g 5 (upd (vw σ 14 4 5) k v)) = spl (geL g o σ) 1 ((shL g (o + 1) σ).set 3 (iA g 5 (upd (vw σ 14 4 5) k v))) := rfl
  rw [e, w_sh_3 h]
  exact geL_sh (fun i hi => pk_un (by omega))
theorem w_ge_5 {g : Ge} {o k : Nat} {σ : Nat → Int32} {v : Int32} (h : k < 5) : (geL g o σ).set 5 (iA g 5 (upd (vw σ 15 4 5) k v)) = geL g o (upd σ (15 + 4 * k) v) := by
  have e : (geL g o σ).set 5 (iA g 5 (upd (vw σ 15 4 5) k v)) = spl (geL g o σ) 1 ((shL g (o + 1) σ).set 4 (iA g 5 (upd (vw σ 15 4 5) k v))) := rfl
  rw [e, w_sh_4 h]
  exact geL_sh (fun i hi => pk_un (by omega))
theorem w_ge_7 {g : Ge} {o k : Nat} {σ : Nat → Int32} {v : Int32} (h : k < 12) : (geL g o σ).set 7 (iA g 12 (upd (vw σ 32 2 12) k v)) = geL g o (upd σ (32 + 2 * k) v) := by
  have e : (geL g o σ).set 7 (iA g 12 (upd (vw σ 32 2 12) k v)) = spl (geL g o σ) 6 ((thL g (o + 6) σ).set 1 (iA g 12 (upd (vw σ 32 2 12) k v))) := rfl
  rw [e, w_th_1 h]
  exact geL_th (fun i hi => pk_un (by omega))
theorem w_ge_8 {g : Ge} {o k : Nat} {σ : Nat → Int32} {v : Int32} (h : k < 12) : (geL g o σ).set 8 (iA g 12 (upd (vw σ 33 2 12) k v)) = geL g o (upd σ (33 + 2 * k) v) := by
  have e : (geL g o σ).set 8 (iA g 12 (upd (vw σ 33 2 12) k v)) = spl (geL g o σ) 6 ((thL g (o + 6) σ).set 2 (iA g 12 (upd (vw σ 33 2 12) k v))) := rfl
  rw [e, w_th_2 h]
  exact geL_th (fun i hi => pk_un (by omega))
theorem w_ge_10 {g : Ge} {o k : Nat} {σ : Nat → Int32} {v : Int32} (h : k < 16) : (geL g o σ).set 10 (iA g 16 (upd (vw σ 56 3 16) k v)) = geL g o (upd σ (56 + 3 * k) v) := by
  have e : (geL g o σ).set 10 (iA g 16 (upd (vw σ 56 3 16) k v)) = spl (geL g o σ) 9 ((chL g (o + 9) σ).set 1 (iA g 16 (upd (vw σ 56 3 16) k v))) := rfl
  rw [e, w_ch_1 h]
  exact geL_ch (fun i hi => pk_un (by omega))
theorem w_ge_11 {g : Ge} {o k : Nat} {σ : Nat → Int32} {v : Int32} (h : k < 16) : (geL g o σ).set 11 (iA g 16 (upd (vw σ 57 3 16) k v)) = geL g o (upd σ (57 + 3 * k) v) := by
  have e : (geL g o σ).set 11 (iA g 16 (upd (vw σ 57 3 16) k v)) = spl (geL g o σ) 9 ((chL g (o + 9) σ).set 2 (iA g 16 (upd (vw σ 57 3 16) k v))) := rfl
  rw [e, w_ch_2 h]
  exact geL_ch (fun i hi => pk_un (by omega))
theorem w_ge_12 {g : Ge} {o k : Nat} {σ : Nat → Int32} {v : Int32} (h : k < 16) : (geL g o σ).set 12 (iA g 16 (upd (vw σ 58 3 16) k v)) = geL g o (upd σ (58 + 3 * k) v) := by
  have e : (geL g o σ).set 12 (iA g 16 (upd (vw σ 58 3 16) k v)) = spl (geL g o σ) 9 ((chL g (o + 9) σ).set 3 (iA g 16 (upd (vw σ 58 3 16) k v))) := rfl
  rw [e, w_ch_3 h]
  exact geL_ch (fun i hi => pk_un (by omega))
theorem w_ge_9_cards {g : Ge} {o : Nat} {σ : Nat → Int32} {v : Int32} : (geL g o σ).set 9 (.inr (1, [.ref (o + 9 + 1), .ref (o + 9 + 2), .ref (o + 9 + 3), .int (v), .int (σ 1)])) = geL g o (upd σ 0 v) := by
  have e : (geL g o σ).set 9 (.inr (1, [.ref (o + 9 + 1), .ref (o + 9 + 2), .ref (o + 9 + 3), .int (v), .int (σ 1)])) = spl (geL g o σ) 9 ((chL g (o + 9) σ).set 0 (.inr (1, [.ref (o + 9 + 1), .ref (o + 9 + 2), .ref (o + 9 + 3), .int (v), .int (σ 1)]))) := rfl
  rw [e, w_ch_0_cards]
  exact geL_ch (fun i hi => pk_un (by omega))
theorem w_ge_9_place {g : Ge} {o : Nat} {σ : Nat → Int32} {v : Int32} : (geL g o σ).set 9 (.inr (1, [.ref (o + 9 + 1), .ref (o + 9 + 2), .ref (o + 9 + 3), .int (σ 0), .int (v)])) = geL g o (upd σ 1 v) := by
  have e : (geL g o σ).set 9 (.inr (1, [.ref (o + 9 + 1), .ref (o + 9 + 2), .ref (o + 9 + 3), .int (σ 0), .int (v)])) = spl (geL g o σ) 9 ((chL g (o + 9) σ).set 0 (.inr (1, [.ref (o + 9 + 1), .ref (o + 9 + 2), .ref (o + 9 + 3), .int (σ 0), .int (v)]))) := rfl
  rw [e, w_ch_0_place]
  exact geL_ch (fun i hi => pk_un (by omega))
theorem w_lo_3 {g : Ge} {o k : Nat} {σ ρ : Nat → Int32} {v : Int32} (h : k < 5) : (loL g o σ ρ).set 3 (iA g 5 (upd (vw σ 12 4 5) k v)) = loL g o (upd σ (12 + 4 * k) v) ρ := by
  have e : (loL g o σ ρ).set 3 (iA g 5 (upd (vw σ 12 4 5) k v)) = spl (loL g o σ ρ) 1 ((geL g (o + 1) σ).set 2 (iA g 5 (upd (vw σ 12 4 5) k v))) := rfl
  rw [e, w_ge_2 h]
  exact loL_ge (fun i hi => pk_un (by omega))
theorem w_lo_4 {g : Ge} {o k : Nat} {σ ρ : Nat → Int32} {v : Int32} (h : k < 5) : (loL g o σ ρ).set 4 (iA g 5 (upd (vw σ 13 4 5) k v)) = loL g o (upd σ (13 + 4 * k) v) ρ := by
  have e : (loL g o σ ρ).set 4 (iA g 5 (upd (vw σ 13 4 5) k v)) = spl (loL g o σ ρ) 1 ((geL g (o + 1) σ).set 3 (iA g 5 (upd (vw σ 13 4 5) k v))) := rfl
  rw [e, w_ge_3 h]
  exact loL_ge (fun i hi => pk_un (by omega))
theorem w_lo_5 {g : Ge} {o k : Nat} {σ ρ : Nat → Int32} {v : Int32} (h : k < 5) : (loL g o σ ρ).set 5 (iA g 5 (upd (vw σ 14 4 5) k v)) = loL g o (upd σ (14 + 4 * k) v) ρ := by
  have e : (loL g o σ ρ).set 5 (iA g 5 (upd (vw σ 14 4 5) k v)) = spl (loL g o σ ρ) 1 ((geL g (o + 1) σ).set 4 (iA g 5 (upd (vw σ 14 4 5) k v))) := rfl
  rw [e, w_ge_4 h]
  exact loL_ge (fun i hi => pk_un (by omega))
theorem w_lo_6 {g : Ge} {o k : Nat} {σ ρ : Nat → Int32} {v : Int32} (h : k < 5) : (loL g o σ ρ).set 6 (iA g 5 (upd (vw σ 15 4 5) k v)) = loL g o (upd σ (15 + 4 * k) v) ρ := by
  have e : (loL g o σ ρ).set 6 (iA g 5 (upd (vw σ 15 4 5) k v)) = spl (loL g o σ ρ) 1 ((geL g (o + 1) σ).set 5 (iA g 5 (upd (vw σ 15 4 5) k v))) := rfl
  rw [e, w_ge_5 h]
  exact loL_ge (fun i hi => pk_un (by omega))
theorem w_lo_8 {g : Ge} {o k : Nat} {σ ρ : Nat → Int32} {v : Int32} (h : k < 12) : (loL g o σ ρ).set 8 (iA g 12 (upd (vw σ 32 2 12) k v)) = loL g o (upd σ (32 + 2 * k) v) ρ := by
  have e : (loL g o σ ρ).set 8 (iA g 12 (upd (vw σ 32 2 12) k v)) = spl (loL g o σ ρ) 1 ((geL g (o + 1) σ).set 7 (iA g 12 (upd (vw σ 32 2 12) k v))) := rfl
  rw [e, w_ge_7 h]
  exact loL_ge (fun i hi => pk_un (by omega))
theorem w_lo_9 {g : Ge} {o k : Nat} {σ ρ : Nat → Int32} {v : Int32} (h : k < 12) : (loL g o σ ρ).set 9 (iA g 12 (upd (vw σ 33 2 12) k v)) = loL g o (upd σ (33 + 2 * k) v) ρ := by
  have e : (loL g o σ ρ).set 9 (iA g 12 (upd (vw σ 33 2 12) k v)) = spl (loL g o σ ρ) 1 ((geL g (o + 1) σ).set 8 (iA g 12 (upd (vw σ 33 2 12) k v))) := rfl
  rw [e, w_ge_8 h]
  exact loL_ge (fun i hi => pk_un (by omega))
theorem w_lo_11 {g : Ge} {o k : Nat} {σ ρ : Nat → Int32} {v : Int32} (h : k < 16) : (loL g o σ ρ).set 11 (iA g 16 (upd (vw σ 56 3 16) k v)) = loL g o (upd σ (56 + 3 * k) v) ρ := by
  have e : (loL g o σ ρ).set 11 (iA g 16 (upd (vw σ 56 3 16) k v)) = spl (loL g o σ ρ) 1 ((geL g (o + 1) σ).set 10 (iA g 16 (upd (vw σ 56 3 16) k v))) := rfl
  rw [e, w_ge_10 h]
  exact loL_ge (fun i hi => pk_un (by omega))
theorem w_lo_12 {g : Ge} {o k : Nat} {σ ρ : Nat → Int32} {v : Int32} (h : k < 16) : (loL g o σ ρ).set 12 (iA g 16 (upd (vw σ 57 3 16) k v)) = loL g o (upd σ (57 + 3 * k) v) ρ := by
  have e : (loL g o σ ρ).set 12 (iA g 16 (upd (vw σ 57 3 16) k v)) = spl (loL g o σ ρ) 1 ((geL g (o + 1) σ).set 11 (iA g 16 (upd (vw σ 57 3 16) k v))) := rfl
  rw [e, w_ge_11 h]
  exact loL_ge (fun i hi => pk_un (by omega))
theorem w_lo_13 {g : Ge} {o k : Nat} {σ ρ : Nat → Int32} {v : Int32} (h : k < 16) : (loL g o σ ρ).set 13 (iA g 16 (upd (vw σ 58 3 16) k v)) = loL g o (upd σ (58 + 3 * k) v) ρ := by
  have e : (loL g o σ ρ).set 13 (iA g 16 (upd (vw σ 58 3 16) k v)) = spl (loL g o σ ρ) 1 ((geL g (o + 1) σ).set 12 (iA g 16 (upd (vw σ 58 3 16) k v))) := rfl
  rw [e, w_ge_12 h]
  exact loL_ge (fun i hi => pk_un (by omega))
theorem w_lo_14 {g : Ge} {o k : Nat} {σ ρ : Nat → Int32} {v : Int32} (h : k < 2) : (loL g o σ ρ).set 14 (iA g 2 (upd (vw σ 3 1 2) k v)) = loL g o (upd σ (3 + 1 * k) v) ρ := by
  have e : (loL g o σ ρ).set 14 (iA g 2 (upd (vw σ 3 1 2) k v)) = spl (loL g o σ ρ) 1 ((geL g (o + 1) σ).set 13 (iA g 2 (upd (vw σ 3 1 2) k v))) := rfl
  rw [e, w_ge_13 h]
  exact loL_ge (fun i hi => pk_un (by omega))
theorem w_lo_1_speed {g : Ge} {o : Nat} {σ ρ : Nat → Int32} {v : Int32} : (loL g o σ ρ).set 1 (.inr (3, [.ref (o + 1 + 1), .ref (o + 1 + 6), .ref (o + 1 + 9), .ref (o + 1 + 13), .int (v), .int (σ 5)])) = loL g o (upd σ 2 v) ρ := by
  have e : (loL g o σ ρ).set 1 (.inr (3, [.ref (o + 1 + 1), .ref (o + 1 + 6), .ref (o + 1 + 9), .ref (o + 1 + 13), .int (v), .int (σ 5)])) = spl (loL g o σ ρ) 1 ((geL g (o + 1) σ).set 0 (.inr (3, [.ref (o + 1 + 1), .ref (o + 1 + 6), .ref (o + 1 + 9), .ref (o + 1 + 13), .int (v), .int (σ 5)]))) := rfl
  rw [e, w_ge_0_speed]
  exact loL_ge (fun i hi => pk_un (by omega))
theorem w_lo_1_lifted {g : Ge} {o : Nat} {σ ρ : Nat → Int32} {v : Int32} : (loL g o σ ρ).set 1 (.inr (3, [.ref (o + 1 + 1), .ref (o + 1 + 6), .ref (o + 1 + 9), .ref (o + 1 + 13), .int (σ 2), .int (v)])) = loL g o (upd σ 5 v) ρ := by
  have e : (loL g o σ ρ).set 1 (.inr (3, [.ref (o + 1 + 1), .ref (o + 1 + 6), .ref (o + 1 + 9), .ref (o + 1 + 13), .int (σ 2), .int (v)])) = spl (loL g o σ ρ) 1 ((geL g (o + 1) σ).set 0 (.inr (3, [.ref (o + 1 + 1), .ref (o + 1 + 6), .ref (o + 1 + 9), .ref (o + 1 + 13), .int (σ 2), .int (v)]))) := rfl
  rw [e, w_ge_0_lifted]
  exact loL_ge (fun i hi => pk_un (by omega))
theorem w_lo_10_cards {g : Ge} {o : Nat} {σ ρ : Nat → Int32} {v : Int32} : (loL g o σ ρ).set 10 (.inr (1, [.ref (o + 1 + 9 + 1), .ref (o + 1 + 9 + 2), .ref (o + 1 + 9 + 3), .int (v), .int (σ 1)])) = loL g o (upd σ 0 v) ρ := by
  have e : (loL g o σ ρ).set 10 (.inr (1, [.ref (o + 1 + 9 + 1), .ref (o + 1 + 9 + 2), .ref (o + 1 + 9 + 3), .int (v), .int (σ 1)])) = spl (loL g o σ ρ) 1 ((geL g (o + 1) σ).set 9 (.inr (1, [.ref (o + 1 + 9 + 1), .ref (o + 1 + 9 + 2), .ref (o + 1 + 9 + 3), .int (v), .int (σ 1)]))) := rfl
  rw [e, w_ge_9_cards]
  exact loL_ge (fun i hi => pk_un (by omega))
theorem w_lo_10_place {g : Ge} {o : Nat} {σ ρ : Nat → Int32} {v : Int32} : (loL g o σ ρ).set 10 (.inr (1, [.ref (o + 1 + 9 + 1), .ref (o + 1 + 9 + 2), .ref (o + 1 + 9 + 3), .int (σ 0), .int (v)])) = loL g o (upd σ 1 v) ρ := by
  have e : (loL g o σ ρ).set 10 (.inr (1, [.ref (o + 1 + 9 + 1), .ref (o + 1 + 9 + 2), .ref (o + 1 + 9 + 3), .int (σ 0), .int (v)])) = spl (loL g o σ ρ) 1 ((geL g (o + 1) σ).set 9 (.inr (1, [.ref (o + 1 + 9 + 1), .ref (o + 1 + 9 + 2), .ref (o + 1 + 9 + 3), .int (σ 0), .int (v)]))) := rfl
  rw [e, w_ge_9_place]
  exact loL_ge (fun i hi => pk_un (by omega))
theorem w_lo_0_picks {g : Ge} {o : Nat} {σ ρ : Nat → Int32} {v : Int32} : (loL g o σ ρ).set 0 (.inr (4, [.ref (o + 1), .ref (o + 15), .int (v), .int (σ 8), .int (σ 9), .int (σ 10), .int (σ 11)])) = loL g o (upd σ 6 v) ρ := s_lo6
theorem w_lo_0_takeable {g : Ge} {o : Nat} {σ ρ : Nat → Int32} {v : Int32} : (loL g o σ ρ).set 0 (.inr (4, [.ref (o + 1), .ref (o + 15), .int (σ 6), .int (v), .int (σ 9), .int (σ 10), .int (σ 11)])) = loL g o (upd σ 8 v) ρ := s_lo8
theorem w_lo_0_stopReason {g : Ge} {o : Nat} {σ ρ : Nat → Int32} {v : Int32} : (loL g o σ ρ).set 0 (.inr (4, [.ref (o + 1), .ref (o + 15), .int (σ 6), .int (σ 8), .int (v), .int (σ 10), .int (σ 11)])) = loL g o (upd σ 9 v) ρ := s_lo9
theorem w_lo_0_stopNumber {g : Ge} {o : Nat} {σ ρ : Nat → Int32} {v : Int32} : (loL g o σ ρ).set 0 (.inr (4, [.ref (o + 1), .ref (o + 15), .int (σ 6), .int (σ 8), .int (σ 9), .int (v), .int (σ 11)])) = loL g o (upd σ 10 v) ρ := s_lo10
theorem w_lo_0_stops {g : Ge} {o : Nat} {σ ρ : Nat → Int32} {v : Int32} : (loL g o σ ρ).set 0 (.inr (4, [.ref (o + 1), .ref (o + 15), .int (σ 6), .int (σ 8), .int (σ 9), .int (σ 10), .int (v)])) = loL g o (upd σ 11 v) ρ := s_lo11
theorem w_lo_16 {g : Ge} {o k : Nat} {σ ρ : Nat → Int32} {v : Int32} (h : k < 20) : (loL g o σ ρ).set 16 (iA g 20 (upd (vw ρ 0 7 20) k v)) = loL g o σ (upd ρ (0 + 7 * k) v) := by
  have e : (loL g o σ ρ).set 16 (iA g 20 (upd (vw ρ 0 7 20) k v)) = spl (loL g o σ ρ) 15 ((clL g (o + 15) σ ρ).set 1 (iA g 20 (upd (vw ρ 0 7 20) k v))) := rfl
  rw [e, s_cl1 h]
  exact loL_cl (fun _ _ _ => rfl)
theorem w_lo_17 {g : Ge} {o k : Nat} {σ ρ : Nat → Int32} {v : Int32} (h : k < 20) : (loL g o σ ρ).set 17 (iA g 20 (upd (vw ρ 1 7 20) k v)) = loL g o σ (upd ρ (1 + 7 * k) v) := by
  have e : (loL g o σ ρ).set 17 (iA g 20 (upd (vw ρ 1 7 20) k v)) = spl (loL g o σ ρ) 15 ((clL g (o + 15) σ ρ).set 2 (iA g 20 (upd (vw ρ 1 7 20) k v))) := rfl
  rw [e, s_cl2 h]
  exact loL_cl (fun _ _ _ => rfl)
theorem w_lo_18 {g : Ge} {o k : Nat} {σ ρ : Nat → Int32} {v : Int32} (h : k < 20) : (loL g o σ ρ).set 18 (iA g 20 (upd (vw ρ 2 7 20) k v)) = loL g o σ (upd ρ (2 + 7 * k) v) := by
  have e : (loL g o σ ρ).set 18 (iA g 20 (upd (vw ρ 2 7 20) k v)) = spl (loL g o σ ρ) 15 ((clL g (o + 15) σ ρ).set 3 (iA g 20 (upd (vw ρ 2 7 20) k v))) := rfl
  rw [e, s_cl3 h]
  exact loL_cl (fun _ _ _ => rfl)
theorem w_lo_19 {g : Ge} {o k : Nat} {σ ρ : Nat → Int32} {v : Int32} (h : k < 20) : (loL g o σ ρ).set 19 (iA g 20 (upd (vw ρ 3 7 20) k v)) = loL g o σ (upd ρ (3 + 7 * k) v) := by
  have e : (loL g o σ ρ).set 19 (iA g 20 (upd (vw ρ 3 7 20) k v)) = spl (loL g o σ ρ) 15 ((clL g (o + 15) σ ρ).set 4 (iA g 20 (upd (vw ρ 3 7 20) k v))) := rfl
  rw [e, s_cl4 h]
  exact loL_cl (fun _ _ _ => rfl)
theorem w_lo_20 {g : Ge} {o k : Nat} {σ ρ : Nat → Int32} {v : Int32} (h : k < 20) : (loL g o σ ρ).set 20 (iA g 20 (upd (vw ρ 4 7 20) k v)) = loL g o σ (upd ρ (4 + 7 * k) v) := by
  have e : (loL g o σ ρ).set 20 (iA g 20 (upd (vw ρ 4 7 20) k v)) = spl (loL g o σ ρ) 15 ((clL g (o + 15) σ ρ).set 5 (iA g 20 (upd (vw ρ 4 7 20) k v))) := rfl
  rw [e, s_cl5 h]
  exact loL_cl (fun _ _ _ => rfl)
theorem w_lo_21 {g : Ge} {o k : Nat} {σ ρ : Nat → Int32} {v : Int32} (h : k < 20) : (loL g o σ ρ).set 21 (iA g 20 (upd (vw ρ 5 7 20) k v)) = loL g o σ (upd ρ (5 + 7 * k) v) := by
  have e : (loL g o σ ρ).set 21 (iA g 20 (upd (vw ρ 5 7 20) k v)) = spl (loL g o σ ρ) 15 ((clL g (o + 15) σ ρ).set 6 (iA g 20 (upd (vw ρ 5 7 20) k v))) := rfl
  rw [e, s_cl6 h]
  exact loL_cl (fun _ _ _ => rfl)
theorem w_lo_22 {g : Ge} {o k : Nat} {σ ρ : Nat → Int32} {v : Int32} (h : k < 20) : (loL g o σ ρ).set 22 (iA g 20 (upd (vw ρ 6 7 20) k v)) = loL g o σ (upd ρ (6 + 7 * k) v) := by
  have e : (loL g o σ ρ).set 22 (iA g 20 (upd (vw ρ 6 7 20) k v)) = spl (loL g o σ ρ) 15 ((clL g (o + 15) σ ρ).set 7 (iA g 20 (upd (vw ρ 6 7 20) k v))) := rfl
  rw [e, s_cl7 h]
  exact loL_cl (fun _ _ _ => rfl)
theorem w_lo_15_rows {g : Ge} {o : Nat} {σ ρ : Nat → Int32} {v : Int32} : (loL g o σ ρ).set 15 (.inr (2, [.ref (o + 15 + 1), .ref (o + 15 + 2), .ref (o + 15 + 3), .ref (o + 15 + 4), .ref (o + 15 + 5), .ref (o + 15 + 6), .ref (o + 15 + 7), .int (v), .int (ρ 140)])) = loL g o (upd σ 7 v) ρ := by
  have e : (loL g o σ ρ).set 15 (.inr (2, [.ref (o + 15 + 1), .ref (o + 15 + 2), .ref (o + 15 + 3), .ref (o + 15 + 4), .ref (o + 15 + 5), .ref (o + 15 + 6), .ref (o + 15 + 7), .int (v), .int (ρ 140)])) = spl (loL g o σ ρ) 15 ((clL g (o + 15) σ ρ).set 0 (.inr (2, [.ref (o + 15 + 1), .ref (o + 15 + 2), .ref (o + 15 + 3), .ref (o + 15 + 4), .ref (o + 15 + 5), .ref (o + 15 + 6), .ref (o + 15 + 7), .int (v), .int (ρ 140)]))) := rfl
  rw [e, s_cl_rows]
  exact loL_cl (fun i hi _ => pk_un hi)
theorem w_lo_15_latest {g : Ge} {o : Nat} {σ ρ : Nat → Int32} {v : Int32} : (loL g o σ ρ).set 15 (.inr (2, [.ref (o + 15 + 1), .ref (o + 15 + 2), .ref (o + 15 + 3), .ref (o + 15 + 4), .ref (o + 15 + 5), .ref (o + 15 + 6), .ref (o + 15 + 7), .int (σ 7), .int (v)])) = loL g o σ (upd ρ 140 v) := by
  have e : (loL g o σ ρ).set 15 (.inr (2, [.ref (o + 15 + 1), .ref (o + 15 + 2), .ref (o + 15 + 3), .ref (o + 15 + 4), .ref (o + 15 + 5), .ref (o + 15 + 6), .ref (o + 15 + 7), .int (σ 7), .int (v)])) = spl (loL g o σ ρ) 15 ((clL g (o + 15) σ ρ).set 0 (.inr (2, [.ref (o + 15 + 1), .ref (o + 15 + 2), .ref (o + 15 + 3), .ref (o + 15 + 4), .ref (o + 15 + 5), .ref (o + 15 + 6), .ref (o + 15 + 7), .int (σ 7), .int (v)]))) := rfl
  rw [e, s_cl_latest]
  exact loL_cl (fun _ _ _ => rfl)
theorem w_x_4 {g : Ge} {o k : Nat} {σ ρ : Nat → Int32} {S P : Nat → Nat → Int32} {φ κ τ π : Nat → Int32} {v : Int32} (h : k < 5) : (xL g o σ ρ S P φ κ τ π).set 4 (iA g 5 (upd (vw σ 12 4 5) k v)) = xL g o (upd σ (12 + 4 * k) v) ρ S P φ κ τ π := by
  have e : (xL g o σ ρ S P φ κ τ π).set 4 (iA g 5 (upd (vw σ 12 4 5) k v)) = spl (xL g o σ ρ S P φ κ τ π) 1 ((loL g (o + 1) σ ρ).set 3 (iA g 5 (upd (vw σ 12 4 5) k v))) := rfl
  rw [e, w_lo_3 h]; rfl
theorem w_x_5 {g : Ge} {o k : Nat} {σ ρ : Nat → Int32} {S P : Nat → Nat → Int32} {φ κ τ π : Nat → Int32} {v : Int32} (h : k < 5) : (xL g o σ ρ S P φ κ τ π).set 5 (iA g 5 (upd (vw σ 13 4 5) k v)) = xL g o (upd σ (13 + 4 * k) v) ρ S P φ κ τ π := by
  have e : (xL g o σ ρ S P φ κ τ π).set 5 (iA g 5 (upd (vw σ 13 4 5) k v)) = spl (xL g o σ ρ S P φ κ τ π) 1 ((loL g (o + 1) σ ρ).set 4 (iA g 5 (upd (vw σ 13 4 5) k v))) := rfl
  rw [e, w_lo_4 h]; rfl
theorem w_x_6 {g : Ge} {o k : Nat} {σ ρ : Nat → Int32} {S P : Nat → Nat → Int32} {φ κ τ π : Nat → Int32} {v : Int32} (h : k < 5) : (xL g o σ ρ S P φ κ τ π).set 6 (iA g 5 (upd (vw σ 14 4 5) k v)) = xL g o (upd σ (14 + 4 * k) v) ρ S P φ κ τ π := by
  have e : (xL g o σ ρ S P φ κ τ π).set 6 (iA g 5 (upd (vw σ 14 4 5) k v)) = spl (xL g o σ ρ S P φ κ τ π) 1 ((loL g (o + 1) σ ρ).set 5 (iA g 5 (upd (vw σ 14 4 5) k v))) := rfl
  rw [e, w_lo_5 h]; rfl
theorem w_x_7 {g : Ge} {o k : Nat} {σ ρ : Nat → Int32} {S P : Nat → Nat → Int32} {φ κ τ π : Nat → Int32} {v : Int32} (h : k < 5) : (xL g o σ ρ S P φ κ τ π).set 7 (iA g 5 (upd (vw σ 15 4 5) k v)) = xL g o (upd σ (15 + 4 * k) v) ρ S P φ κ τ π := by
  have e : (xL g o σ ρ S P φ κ τ π).set 7 (iA g 5 (upd (vw σ 15 4 5) k v)) = spl (xL g o σ ρ S P φ κ τ π) 1 ((loL g (o + 1) σ ρ).set 6 (iA g 5 (upd (vw σ 15 4 5) k v))) := rfl
  rw [e, w_lo_6 h]; rfl
theorem w_x_9 {g : Ge} {o k : Nat} {σ ρ : Nat → Int32} {S P : Nat → Nat → Int32} {φ κ τ π : Nat → Int32} {v : Int32} (h : k < 12) : (xL g o σ ρ S P φ κ τ π).set 9 (iA g 12 (upd (vw σ 32 2 12) k v)) = xL g o (upd σ (32 + 2 * k) v) ρ S P φ κ τ π := by
  have e : (xL g o σ ρ S P φ κ τ π).set 9 (iA g 12 (upd (vw σ 32 2 12) k v)) = spl (xL g o σ ρ S P φ κ τ π) 1 ((loL g (o + 1) σ ρ).set 8 (iA g 12 (upd (vw σ 32 2 12) k v))) := rfl
  rw [e, w_lo_8 h]; rfl
theorem w_x_10 {g : Ge} {o k : Nat} {σ ρ : Nat → Int32} {S P : Nat → Nat → Int32} {φ κ τ π : Nat → Int32} {v : Int32} (h : k < 12) : (xL g o σ ρ S P φ κ τ π).set 10 (iA g 12 (upd (vw σ 33 2 12) k v)) = xL g o (upd σ (33 + 2 * k) v) ρ S P φ κ τ π := by
  have e : (xL g o σ ρ S P φ κ τ π).set 10 (iA g 12 (upd (vw σ 33 2 12) k v)) = spl (xL g o σ ρ S P φ κ τ π) 1 ((loL g (o + 1) σ ρ).set 9 (iA g 12 (upd (vw σ 33 2 12) k v))) := rfl
  rw [e, w_lo_9 h]; rfl
theorem w_x_12 {g : Ge} {o k : Nat} {σ ρ : Nat → Int32} {S P : Nat → Nat → Int32} {φ κ τ π : Nat → Int32} {v : Int32} (h : k < 16) : (xL g o σ ρ S P φ κ τ π).set 12 (iA g 16 (upd (vw σ 56 3 16) k v)) = xL g o (upd σ (56 + 3 * k) v) ρ S P φ κ τ π := by
  have e : (xL g o σ ρ S P φ κ τ π).set 12 (iA g 16 (upd (vw σ 56 3 16) k v)) = spl (xL g o σ ρ S P φ κ τ π) 1 ((loL g (o + 1) σ ρ).set 11 (iA g 16 (upd (vw σ 56 3 16) k v))) := rfl
  rw [e, w_lo_11 h]; rfl
theorem w_x_13 {g : Ge} {o k : Nat} {σ ρ : Nat → Int32} {S P : Nat → Nat → Int32} {φ κ τ π : Nat → Int32} {v : Int32} (h : k < 16) : (xL g o σ ρ S P φ κ τ π).set 13 (iA g 16 (upd (vw σ 57 3 16) k v)) = xL g o (upd σ (57 + 3 * k) v) ρ S P φ κ τ π := by
  have e : (xL g o σ ρ S P φ κ τ π).set 13 (iA g 16 (upd (vw σ 57 3 16) k v)) = spl (xL g o σ ρ S P φ κ τ π) 1 ((loL g (o + 1) σ ρ).set 12 (iA g 16 (upd (vw σ 57 3 16) k v))) := rfl
  rw [e, w_lo_12 h]; rfl
theorem w_x_14 {g : Ge} {o k : Nat} {σ ρ : Nat → Int32} {S P : Nat → Nat → Int32} {φ κ τ π : Nat → Int32} {v : Int32} (h : k < 16) : (xL g o σ ρ S P φ κ τ π).set 14 (iA g 16 (upd (vw σ 58 3 16) k v)) = xL g o (upd σ (58 + 3 * k) v) ρ S P φ κ τ π := by
  have e : (xL g o σ ρ S P φ κ τ π).set 14 (iA g 16 (upd (vw σ 58 3 16) k v)) = spl (xL g o σ ρ S P φ κ τ π) 1 ((loL g (o + 1) σ ρ).set 13 (iA g 16 (upd (vw σ 58 3 16) k v))) := rfl
  rw [e, w_lo_13 h]; rfl
theorem w_x_15 {g : Ge} {o k : Nat} {σ ρ : Nat → Int32} {S P : Nat → Nat → Int32} {φ κ τ π : Nat → Int32} {v : Int32} (h : k < 2) : (xL g o σ ρ S P φ κ τ π).set 15 (iA g 2 (upd (vw σ 3 1 2) k v)) = xL g o (upd σ (3 + 1 * k) v) ρ S P φ κ τ π := by
  have e : (xL g o σ ρ S P φ κ τ π).set 15 (iA g 2 (upd (vw σ 3 1 2) k v)) = spl (xL g o σ ρ S P φ κ τ π) 1 ((loL g (o + 1) σ ρ).set 14 (iA g 2 (upd (vw σ 3 1 2) k v))) := rfl
  rw [e, w_lo_14 h]; rfl
theorem w_x_2_speed {g : Ge} {o : Nat} {σ ρ : Nat → Int32} {S P : Nat → Nat → Int32} {φ κ τ π : Nat → Int32} {v : Int32} : (xL g o σ ρ S P φ κ τ π).set 2 (.inr (3, [.ref (o + 1 + 1 + 1), .ref (o + 1 + 1 + 6), .ref (o + 1 + 1 + 9), .ref (o + 1 + 1 + 13), .int (v), .int (σ 5)])) = xL g o (upd σ 2 v) ρ S P φ κ τ π := by
  have e : (xL g o σ ρ S P φ κ τ π).set 2 (.inr (3, [.ref (o + 1 + 1 + 1), .ref (o + 1 + 1 + 6), .ref (o + 1 + 1 + 9), .ref (o + 1 + 1 + 13), .int (v), .int (σ 5)])) = spl (xL g o σ ρ S P φ κ τ π) 1 ((loL g (o + 1) σ ρ).set 1 (.inr (3, [.ref (o + 1 + 1 + 1), .ref (o + 1 + 1 + 6), .ref (o + 1 + 1 + 9), .ref (o + 1 + 1 + 13), .int (v), .int (σ 5)]))) := rfl
  rw [e, w_lo_1_speed]; rfl
theorem w_x_2_lifted {g : Ge} {o : Nat} {σ ρ : Nat → Int32} {S P : Nat → Nat → Int32} {φ κ τ π : Nat → Int32} {v : Int32} : (xL g o σ ρ S P φ κ τ π).set 2 (.inr (3, [.ref (o + 1 + 1 + 1), .ref (o + 1 + 1 + 6), .ref (o + 1 + 1 + 9), .ref (o + 1 + 1 + 13), .int (σ 2), .int (v)])) = xL g o (upd σ 5 v) ρ S P φ κ τ π := by
  have e : (xL g o σ ρ S P φ κ τ π).set 2 (.inr (3, [.ref (o + 1 + 1 + 1), .ref (o + 1 + 1 + 6), .ref (o + 1 + 1 + 9), .ref (o + 1 + 1 + 13), .int (σ 2), .int (v)])) = spl (xL g o σ ρ S P φ κ τ π) 1 ((loL g (o + 1) σ ρ).set 1 (.inr (3, [.ref (o + 1 + 1 + 1), .ref (o + 1 + 1 + 6), .ref (o + 1 + 1 + 9), .ref (o + 1 + 1 + 13), .int (σ 2), .int (v)]))) := rfl
  rw [e, w_lo_1_lifted]; rfl
theorem w_x_11_cards {g : Ge} {o : Nat} {σ ρ : Nat → Int32} {S P : Nat → Nat → Int32} {φ κ τ π : Nat → Int32} {v : Int32} : (xL g o σ ρ S P φ κ τ π).set 11 (.inr (1, [.ref (o + 1 + 1 + 9 + 1), .ref (o + 1 + 1 + 9 + 2), .ref (o + 1 + 1 + 9 + 3), .int (v), .int (σ 1)])) = xL g o (upd σ 0 v) ρ S P φ κ τ π := by
  have e : (xL g o σ ρ S P φ κ τ π).set 11 (.inr (1, [.ref (o + 1 + 1 + 9 + 1), .ref (o + 1 + 1 + 9 + 2), .ref (o + 1 + 1 + 9 + 3), .int (v), .int (σ 1)])) = spl (xL g o σ ρ S P φ κ τ π) 1 ((loL g (o + 1) σ ρ).set 10 (.inr (1, [.ref (o + 1 + 1 + 9 + 1), .ref (o + 1 + 1 + 9 + 2), .ref (o + 1 + 1 + 9 + 3), .int (v), .int (σ 1)]))) := rfl
  rw [e, w_lo_10_cards]; rfl
theorem w_x_11_place {g : Ge} {o : Nat} {σ ρ : Nat → Int32} {S P : Nat → Nat → Int32} {φ κ τ π : Nat → Int32} {v : Int32} : (xL g o σ ρ S P φ κ τ π).set 11 (.inr (1, [.ref (o + 1 + 1 + 9 + 1), .ref (o + 1 + 1 + 9 + 2), .ref (o + 1 + 1 + 9 + 3), .int (σ 0), .int (v)])) = xL g o (upd σ 1 v) ρ S P φ κ τ π := by
  have e : (xL g o σ ρ S P φ κ τ π).set 11 (.inr (1, [.ref (o + 1 + 1 + 9 + 1), .ref (o + 1 + 1 + 9 + 2), .ref (o + 1 + 1 + 9 + 3), .int (σ 0), .int (v)])) = spl (xL g o σ ρ S P φ κ τ π) 1 ((loL g (o + 1) σ ρ).set 10 (.inr (1, [.ref (o + 1 + 1 + 9 + 1), .ref (o + 1 + 1 + 9 + 2), .ref (o + 1 + 1 + 9 + 3), .int (σ 0), .int (v)]))) := rfl
  rw [e, w_lo_10_place]; rfl
theorem w_x_1_picks {g : Ge} {o : Nat} {σ ρ : Nat → Int32} {S P : Nat → Nat → Int32} {φ κ τ π : Nat → Int32} {v : Int32} : (xL g o σ ρ S P φ κ τ π).set 1 (.inr (4, [.ref (o + 1 + 1), .ref (o + 1 + 15), .int (v), .int (σ 8), .int (σ 9), .int (σ 10), .int (σ 11)])) = xL g o (upd σ 6 v) ρ S P φ κ τ π := by
  have e : (xL g o σ ρ S P φ κ τ π).set 1 (.inr (4, [.ref (o + 1 + 1), .ref (o + 1 + 15), .int (v), .int (σ 8), .int (σ 9), .int (σ 10), .int (σ 11)])) = spl (xL g o σ ρ S P φ κ τ π) 1 ((loL g (o + 1) σ ρ).set 0 (.inr (4, [.ref (o + 1 + 1), .ref (o + 1 + 15), .int (v), .int (σ 8), .int (σ 9), .int (σ 10), .int (σ 11)]))) := rfl
  rw [e, w_lo_0_picks]; rfl
theorem w_x_1_takeable {g : Ge} {o : Nat} {σ ρ : Nat → Int32} {S P : Nat → Nat → Int32} {φ κ τ π : Nat → Int32} {v : Int32} : (xL g o σ ρ S P φ κ τ π).set 1 (.inr (4, [.ref (o + 1 + 1), .ref (o + 1 + 15), .int (σ 6), .int (v), .int (σ 9), .int (σ 10), .int (σ 11)])) = xL g o (upd σ 8 v) ρ S P φ κ τ π := by
  have e : (xL g o σ ρ S P φ κ τ π).set 1 (.inr (4, [.ref (o + 1 + 1), .ref (o + 1 + 15), .int (σ 6), .int (v), .int (σ 9), .int (σ 10), .int (σ 11)])) = spl (xL g o σ ρ S P φ κ τ π) 1 ((loL g (o + 1) σ ρ).set 0 (.inr (4, [.ref (o + 1 + 1), .ref (o + 1 + 15), .int (σ 6), .int (v), .int (σ 9), .int (σ 10), .int (σ 11)]))) := rfl
  rw [e, w_lo_0_takeable]; rfl
theorem w_x_1_stopReason {g : Ge} {o : Nat} {σ ρ : Nat → Int32} {S P : Nat → Nat → Int32} {φ κ τ π : Nat → Int32} {v : Int32} : (xL g o σ ρ S P φ κ τ π).set 1 (.inr (4, [.ref (o + 1 + 1), .ref (o + 1 + 15), .int (σ 6), .int (σ 8), .int (v), .int (σ 10), .int (σ 11)])) = xL g o (upd σ 9 v) ρ S P φ κ τ π := by
  have e : (xL g o σ ρ S P φ κ τ π).set 1 (.inr (4, [.ref (o + 1 + 1), .ref (o + 1 + 15), .int (σ 6), .int (σ 8), .int (v), .int (σ 10), .int (σ 11)])) = spl (xL g o σ ρ S P φ κ τ π) 1 ((loL g (o + 1) σ ρ).set 0 (.inr (4, [.ref (o + 1 + 1), .ref (o + 1 + 15), .int (σ 6), .int (σ 8), .int (v), .int (σ 10), .int (σ 11)]))) := rfl
  rw [e, w_lo_0_stopReason]; rfl
theorem w_x_1_stopNumber {g : Ge} {o : Nat} {σ ρ : Nat → Int32} {S P : Nat → Nat → Int32} {φ κ τ π : Nat → Int32} {v : Int32} : (xL g o σ ρ S P φ κ τ π).set 1 (.inr (4, [.ref (o + 1 + 1), .ref (o + 1 + 15), .int (σ 6), .int (σ 8), .int (σ 9), .int (v), .int (σ 11)])) = xL g o (upd σ 10 v) ρ S P φ κ τ π := by
  have e : (xL g o σ ρ S P φ κ τ π).set 1 (.inr (4, [.ref (o + 1 + 1), .ref (o + 1 + 15), .int (σ 6), .int (σ 8), .int (σ 9), .int (v), .int (σ 11)])) = spl (xL g o σ ρ S P φ κ τ π) 1 ((loL g (o + 1) σ ρ).set 0 (.inr (4, [.ref (o + 1 + 1), .ref (o + 1 + 15), .int (σ 6), .int (σ 8), .int (σ 9), .int (v), .int (σ 11)]))) := rfl
  rw [e, w_lo_0_stopNumber]; rfl
theorem w_x_1_stops {g : Ge} {o : Nat} {σ ρ : Nat → Int32} {S P : Nat → Nat → Int32} {φ κ τ π : Nat → Int32} {v : Int32} : (xL g o σ ρ S P φ κ τ π).set 1 (.inr (4, [.ref (o + 1 + 1), .ref (o + 1 + 15), .int (σ 6), .int (σ 8), .int (σ 9), .int (σ 10), .int (v)])) = xL g o (upd σ 11 v) ρ S P φ κ τ π := by
  have e : (xL g o σ ρ S P φ κ τ π).set 1 (.inr (4, [.ref (o + 1 + 1), .ref (o + 1 + 15), .int (σ 6), .int (σ 8), .int (σ 9), .int (σ 10), .int (v)])) = spl (xL g o σ ρ S P φ κ τ π) 1 ((loL g (o + 1) σ ρ).set 0 (.inr (4, [.ref (o + 1 + 1), .ref (o + 1 + 15), .int (σ 6), .int (σ 8), .int (σ 9), .int (σ 10), .int (v)]))) := rfl
  rw [e, w_lo_0_stops]; rfl
theorem w_x_34_place {g : Ge} {o : Nat} {σ ρ : Nat → Int32} {S P : Nat → Nat → Int32} {φ κ τ π : Nat → Int32} {v : Int32} : (xL g o σ ρ S P φ κ τ π).set 34 (.inr (1, [.ref (o + 25 + 9 + 1), .ref (o + 25 + 9 + 2), .ref (o + 25 + 9 + 3), .int (φ 0), .int (v)])) = xL g o σ ρ S P (upd φ 1 v) κ τ π := by
  have e : (xL g o σ ρ S P φ κ τ π).set 34 (.inr (1, [.ref (o + 25 + 9 + 1), .ref (o + 25 + 9 + 2), .ref (o + 25 + 9 + 3), .int (φ 0), .int (v)])) = spl (xL g o σ ρ S P φ κ τ π) 25 ((geL g (o + 25) φ).set 9 (.inr (1, [.ref (o + 25 + 9 + 1), .ref (o + 25 + 9 + 2), .ref (o + 25 + 9 + 3), .int (φ 0), .int (v)]))) := rfl
  rw [e, w_ge_9_place]; rfl
theorem w_x_0_savedStates {g : Ge} {o : Nat} {σ ρ : Nat → Int32} {S P : Nat → Nat → Int32} {φ κ τ π : Nat → Int32} {v : Int32} : (xL g o σ ρ S P φ κ τ π).set 0 (.inr (7, [.ref (o + 1), .ref (o + 24), .int (v), .int (π 1), .ref (o + 25), .ref (o + 39), .ref (o + 40), .int (π 2)])) = xL g o σ ρ S P φ κ τ (upd π 0 v) := rfl
theorem w_x_0_latestSaved {g : Ge} {o : Nat} {σ ρ : Nat → Int32} {S P : Nat → Nat → Int32} {φ κ τ π : Nat → Int32} {v : Int32} : (xL g o σ ρ S P φ κ τ π).set 0 (.inr (7, [.ref (o + 1), .ref (o + 24), .int (π 0), .int (v), .ref (o + 25), .ref (o + 39), .ref (o + 40), .int (π 2)])) = xL g o σ ρ S P φ κ τ (upd π 1 v) := rfl
theorem w_x_0_textLength {g : Ge} {o : Nat} {σ ρ : Nat → Int32} {S P : Nat → Nat → Int32} {φ κ τ π : Nat → Int32} {v : Int32} : (xL g o σ ρ S P φ κ τ π).set 0 (.inr (7, [.ref (o + 1), .ref (o + 24), .int (π 0), .int (π 1), .ref (o + 25), .ref (o + 39), .ref (o + 40), .int (v)])) = xL g o σ ρ S P φ κ τ (upd π 2 v) := rfl
theorem w_x_40 {g : Ge} {o k : Nat} {σ ρ : Nat → Int32} {S P : Nat → Nat → Int32} {φ κ τ π : Nat → Int32} {v : Int32} : (xL g o σ ρ S P φ κ τ π).set 40 (.inl (g.2.1.2.1, 80, .inl (upd τ k v))) = xL g o σ ρ S P φ κ (upd τ k v) π := rfl
theorem w_rd_0_frames {κ : Nat → Int32} {v : Int32} : (rdL κ).set 0 (.inr (0, [.int v, .int (κ 1), .int (κ 2), .int (κ 3), .int (κ 4)])) = rdL (upd κ 0 v) := rfl
theorem w_rd_0_left {κ : Nat → Int32} {v : Int32} : (rdL κ).set 0 (.inr (0, [.int (κ 0), .int v, .int (κ 2), .int (κ 3), .int (κ 4)])) = rdL (upd κ 1 v) := rfl
theorem w_rd_0_right {κ : Nat → Int32} {v : Int32} : (rdL κ).set 0 (.inr (0, [.int (κ 0), .int (κ 1), .int v, .int (κ 3), .int (κ 4)])) = rdL (upd κ 2 v) := rfl
theorem w_rd_0_step {κ : Nat → Int32} {v : Int32} : (rdL κ).set 0 (.inr (0, [.int (κ 0), .int (κ 1), .int (κ 2), .int v, .int (κ 4)])) = rdL (upd κ 3 v) := rfl
theorem w_rd_0_lowestFrame {κ : Nat → Int32} {v : Int32} : (rdL κ).set 0 (.inr (0, [.int (κ 0), .int (κ 1), .int (κ 2), .int (κ 3), .int v])) = rdL (upd κ 4 v) := rfl
theorem w_md_0_recorded {g : Ge} {o : Nat} {μ kp hs tx ι : Nat → Int32} {v : Int32} : (mdL g o μ kp hs tx ι).set 0 (.inr (8, [.ref (o + 1), .ref (o + 2), .ref (o + 3), .int (v), .ref (o + 4), .int (ι 1), .int (ι 2), .int (ι 3), .int (ι 4), .int (ι 5), .int (ι 6), .int (ι 7)])) = mdL g o μ kp hs tx (upd ι 0 v) := rfl
theorem w_md_0_textLength {g : Ge} {o : Nat} {μ kp hs tx ι : Nat → Int32} {v : Int32} : (mdL g o μ kp hs tx ι).set 0 (.inr (8, [.ref (o + 1), .ref (o + 2), .ref (o + 3), .int (ι 0), .ref (o + 4), .int (v), .int (ι 2), .int (ι 3), .int (ι 4), .int (ι 5), .int (ι 6), .int (ι 7)])) = mdL g o μ kp hs tx (upd ι 1 v) := rfl
theorem w_md_0_reason {g : Ge} {o : Nat} {μ kp hs tx ι : Nat → Int32} {v : Int32} : (mdL g o μ kp hs tx ι).set 0 (.inr (8, [.ref (o + 1), .ref (o + 2), .ref (o + 3), .int (ι 0), .ref (o + 4), .int (ι 1), .int (v), .int (ι 3), .int (ι 4), .int (ι 5), .int (ι 6), .int (ι 7)])) = mdL g o μ kp hs tx (upd ι 2 v) := rfl
theorem w_md_0_reasonNumber {g : Ge} {o : Nat} {μ kp hs tx ι : Nat → Int32} {v : Int32} : (mdL g o μ kp hs tx ι).set 0 (.inr (8, [.ref (o + 1), .ref (o + 2), .ref (o + 3), .int (ι 0), .ref (o + 4), .int (ι 1), .int (ι 2), .int (v), .int (ι 4), .int (ι 5), .int (ι 6), .int (ι 7)])) = mdL g o μ kp hs tx (upd ι 3 v) := rfl
theorem w_md_0_at {g : Ge} {o : Nat} {μ kp hs tx ι : Nat → Int32} {v : Int32} : (mdL g o μ kp hs tx ι).set 0 (.inr (8, [.ref (o + 1), .ref (o + 2), .ref (o + 3), .int (ι 0), .ref (o + 4), .int (ι 1), .int (ι 2), .int (ι 3), .int (v), .int (ι 5), .int (ι 6), .int (ι 7)])) = mdL g o μ kp hs tx (upd ι 4 v) := rfl
theorem w_md_0_framesRead {g : Ge} {o : Nat} {μ kp hs tx ι : Nat → Int32} {v : Int32} : (mdL g o μ kp hs tx ι).set 0 (.inr (8, [.ref (o + 1), .ref (o + 2), .ref (o + 3), .int (ι 0), .ref (o + 4), .int (ι 1), .int (ι 2), .int (ι 3), .int (ι 4), .int (v), .int (ι 6), .int (ι 7)])) = mdL g o μ kp hs tx (upd ι 5 v) := rfl
theorem w_md_0_leftRead {g : Ge} {o : Nat} {μ kp hs tx ι : Nat → Int32} {v : Int32} : (mdL g o μ kp hs tx ι).set 0 (.inr (8, [.ref (o + 1), .ref (o + 2), .ref (o + 3), .int (ι 0), .ref (o + 4), .int (ι 1), .int (ι 2), .int (ι 3), .int (ι 4), .int (ι 5), .int (v), .int (ι 7)])) = mdL g o μ kp hs tx (upd ι 6 v) := rfl
theorem w_md_0_rightRead {g : Ge} {o : Nat} {μ kp hs tx ι : Nat → Int32} {v : Int32} : (mdL g o μ kp hs tx ι).set 0 (.inr (8, [.ref (o + 1), .ref (o + 2), .ref (o + 3), .int (ι 0), .ref (o + 4), .int (ι 1), .int (ι 2), .int (ι 3), .int (ι 4), .int (ι 5), .int (ι 6), .int (v)])) = mdL g o μ kp hs tx (upd ι 7 v) := rfl
theorem f_lo_sh_2 {g : Ge} {o : Nat} {σ σ' ρ : Nat → Int32} (h : ∀ i, ¬ (12 ≤ i ∧ i < 32) → σ' i = σ i) : spl (loL g o σ ρ) 2 (shL g (o + 2) σ') = loL g o σ' ρ := by
  have e : spl (loL g o σ ρ) 2 (shL g (o + 2) σ') = spl (loL g o σ ρ) 1 (spl (geL g (o + 1) σ) 1 (shL g (o + 1 + 1) σ')) := rfl
  rw [e, geL_sh h]
  exact loL_ge (fun i hi => h i (by omega))
theorem f_x_sh_3 {g : Ge} {o : Nat} {σ σ' ρ : Nat → Int32} {S P : Nat → Nat → Int32} {φ κ τ π : Nat → Int32} {v : Int32} (h : ∀ i, ¬ (12 ≤ i ∧ i < 32) → σ' i = σ i) : spl (xL g o σ ρ S P φ κ τ π) 3 (shL g (o + 3) σ') = xL g o σ' ρ S P φ κ τ π := by
  have e : spl (xL g o σ ρ S P φ κ τ π) 3 (shL g (o + 3) σ') = spl (xL g o σ ρ S P φ κ τ π) 1 (spl (loL g (o + 1) σ ρ) 2 (shL g (o + 1 + 2) σ')) := rfl
  rw [e, f_lo_sh_2 h]; rfl
theorem f_lo_ch_10 {g : Ge} {o : Nat} {σ σ' ρ : Nat → Int32} (h : ∀ i, ¬ (i < 2 ∨ 56 ≤ i) → σ' i = σ i) : spl (loL g o σ ρ) 10 (chL g (o + 10) σ') = loL g o σ' ρ := by
  have e : spl (loL g o σ ρ) 10 (chL g (o + 10) σ') = spl (loL g o σ ρ) 1 (spl (geL g (o + 1) σ) 9 (chL g (o + 1 + 9) σ')) := rfl
  rw [e, geL_ch h]
  exact loL_ge (fun i hi => h i (by omega))
theorem f_x_ch_11 {g : Ge} {o : Nat} {σ σ' ρ : Nat → Int32} {S P : Nat → Nat → Int32} {φ κ τ π : Nat → Int32} {v : Int32} (h : ∀ i, ¬ (i < 2 ∨ 56 ≤ i) → σ' i = σ i) : spl (xL g o σ ρ S P φ κ τ π) 11 (chL g (o + 11) σ') = xL g o σ' ρ S P φ κ τ π := by
  have e : spl (xL g o σ ρ S P φ κ τ π) 11 (chL g (o + 11) σ') = spl (xL g o σ ρ S P φ κ τ π) 1 (spl (loL g (o + 1) σ ρ) 10 (chL g (o + 1 + 10) σ')) := rfl
  rw [e, f_lo_ch_10 h]; rfl
end
section
/-! a second block, read alone -/
def OB (g : Ge) (N : Nat) (f : Pic) (o nB o2 nB2 : Nat) (M2 : List va_E) : Prop := BB g N o2 nB2 ∧ (o + nB ≤ o2 ∨ o2 + nB2 ≤ o) ∧ M2.length = nB2 ∧ ∀ (j : Nat) (c : va_E), M2[j]? = some c → f (o2 + j) = c
def Cb2 (l : Launch) (g : Ge) (y : MethodName) (w : Cond) (d : Nat) (As : List Value) (N o : Nat) (M : List va_E) (o2 : Nat) (M2 : List va_E) (r : Option Value) (M' : List va_E) : Prop :=
  ∀ f : Pic, BB g N o M.length → OB g N f o M.length o2 M2.length M2 → Ct l g y w d As N (ovr f o M) r N (ovr f o M') 0 0
theorem OB.at {g : Ge} {N o nB o2 nB2 j : Nat} {f : Pic} {L M2 : List va_E} {c : va_E} (h : OB g N f o nB o2 nB2 M2) (hL : L.length = nB) (hj : M2[j]? = some c) : ovr f o L (o2 + j) = c := by
  have h1 := (List.getElem?_eq_some_iff.mp hj).1
  have h2 := h.2.2.1
  rw [ovr_out (by have := h.2.1; omega)]
  exact h.2.2.2 j c hj
theorem OB.rg {g : Ge} {N o nB o2 nB2 j : Nat} {f : Pic} {M2 : List va_E} {c : va_E} (h : OB g N f o nB o2 nB2 M2) (hj : M2[j]? = some c) : g.2.2 ≤ o2 + j ∧ o2 + j < g.2.2 + N := by
  have h1 := (List.getElem?_eq_some_iff.mp hj).1
  exact ⟨h.1.lo, h.1.hi (by rw [← h.2.2.1]; exact h1)⟩
theorem OB.sub {g : Ge} {N o nB o2 nB2 j n j2 : Nat} {f : Pic} {L M2 M3 : List va_E} (h : OB g N f o nB o2 nB2 M2) (hL : L.length = nB) (hj : j + n ≤ nB) (hj2 : j2 + M3.length ≤ nB2) (hs : sbl M2 j2 M3.length = M3) : OB g N (ovr f o L) (o + j) n (o2 + j2) M3.length M3 := by
  refine ⟨h.1.sub hj2, ?_, rfl, fun i c hi => ?_⟩
  · have := h.2.1; omega
  · have h1 := (List.getElem?_eq_some_iff.mp hi).1
    have e : M2[j2 + i]? = some c := by
      rw [← hs] at hi
      unfold sbl at hi
      rw [List.getElem?_take, if_pos h1, List.getElem?_drop] at hi
      exact hi
    rw [Nat.add_assoc]
    exact h.at hL e
/-- the second block lies in the first picture itself -/
theorem OB.of {g : Ge} {N o o1 o2 n n2 : Nat} {f : Pic} {L M2 : List va_E} (j1 j2 : Nat) {nB : Nat} (hB : BB g N o nB) (h1 : o1 = o + j1) (h2 : o2 = o + j2) (hj2 : j2 + M2.length ≤ nB) (hd : j1 + n ≤ j2 ∨ j2 + M2.length ≤ j1) (hs : sbl L j2 M2.length = M2) (hn : n2 = M2.length) : OB g N (ovr f o L) o1 n o2 n2 M2 := by
  subst h1; subst h2; subst hn
  refine ⟨hB.sub hj2, by omega, rfl, fun i c hi => ?_⟩
  have h1 := (List.getElem?_eq_some_iff.mp hi).1
  have e : L[j2 + i]? = some c := by
    rw [← hs] at hi
    unfold sbl at hi
    rw [List.getElem?_take, if_pos h1, List.getElem?_drop] at hi
    exact hi
  rw [Nat.add_assoc]
  exact ovr_at e
theorem cpy_vw {σ σ2 : Nat → Int32} {b s n : Nat} : va_cpy (vw σ2 b s n) (vw σ b s n) 0 0 n = vw σ2 b s n := by
  funext j
  by_cases hj : j < n
  · rw [pk_cpy_in (Nat.zero_le _) (by omega)]; congr 1; omega
  · rw [pk_cpy_out (by omega)]; simp [vw, hj]
section V6
variable {p : Program} {l : Launch} {e : Env} {R : Room} {s : State} {m : MethodId} {args : Array Value} {below : List Frame} {meth : Method} {c : Code} {Q : State → Prop}
variable {g : Ge} {cc : ByteArray} {nL : Nat} {own : String} {rt : Option FieldType} {N0 cs ss N : Nat} {f : Pic} {pc : Nat} {lv : List (Option Value)} {st : List Value} {o nB o2 nB2 : Nat} {L L' M2 : List va_E}
theorem v_getO (X : Cx p args s m meth c g cc nL own rt N0) {ci idx : Nat} {C : String} {T : u_T} {n : Nat} {ty : Nat → FieldType} {fs : List Value} {v : Value} (hO : OB g N f o nB o2 nB2 M2) (hL : L.length = nB) (cf : CF ci C T n ty) (k : Nat) (hk : k < n) (hl : Cond.fieldLink own idx C (T k).2.1 (T k).2.2.1 ∈ gT) (d : decode cc pc = .ok (.getfield idx, 3)) (j : Nat) (hj : M2[j]? = some (.inr (ci, fs))) (hv : fs[k]? = some v) (kk : V p l e R s m args below meth c Q g nL cs ss N (ovr f o L) (pc + 3) lv (v :: st)) : V p l e R s m args below meth c Q g nL cs ss N (ovr f o L) pc lv (.ref (o2 + j) :: st) :=
  v_get X cf k hk hl d (hO.rg hj) (hO.at hL hj) hv kk
theorem v_ialdO (X : Cx p args s m meth c g cc nL own rt N0) {n b s' : Nat} {i : Int32} {σ : Nat → Int32} (hO : OB g N f o nB o2 nB2 M2) (hL : L.length = nB) (d : decode cc pc = .ok (.iaload, 1)) (j : Nat) (hj : M2[j]? = some (.inl (g.2.1.1, n, .inl (fun i => if i < n then σ (b + s' * i) else 0)))) (k : Nat) (hi : i = nI k) (hk : k < n) (hn : n < 2 ^ 31) (kk : V p l e R s m args below meth c Q g nL cs ss N (ovr f o L) (pc + 1) lv (.int (σ (b + s' * k)) :: st)) : V p l e R s m args below meth c Q g nL cs ss N (ovr f o L) pc lv (.int i :: .ref (o2 + j) :: st) := by
  refine v_iald X d (hO.rg hj) (hO.at hL hj) hi hk hn ?_
  rw [if_pos hk]
  exact kk
theorem v_copyO (X : Cx p args s m meth c g cc nL own rt N0) {idx n : Nat} {sp dp z : Int32} {src dst : Nat → Int32} (hO : OB g N f o nB o2 nB2 M2) (hL0 : L.length = nB) (hB : BB g N o nB) (hml : Cond.methodLink own idx arraycopyName ∈ gT) (h0 : sp = 0) (h1 : dp = 0) (hz : z = nI n) (hn : n < 2 ^ 31) (j2 : Nat) (hj2 : M2[j2]? = some (.inl (g.2.1.1, n, .inl src))) (j : Nat) (hjn : j < nB) (hj : L[j]? = some (.inl (g.2.1.1, n, .inl dst))) (hL : L.set j (.inl (g.2.1.1, n, .inl (va_cpy src dst 0 0 n))) = L') (hcat : (st.map fun v => v.category).sum ≤ 8) (hR : 1 ≤ R.frames ∧ 8 + (nativeFrameWords "java/lang/System" "arraycopy" 5 + 11) ≤ R.locals) (d : decode cc pc = .ok (.invokestatic idx, 3)) (kk : V p l e R s m args below meth c Q g nL cs ss N (ovr f o L') (pc + 3) lv st) : V p l e R s m args below meth c Q g nL cs ss N (ovr f o L) pc lv (.int z :: .int dp :: .ref (o + j) :: .int sp :: .ref (o2 + j2) :: st) := by
  refine v_copy X hml h0 h1 hz hn (Nat.le_refl n) (Nat.le_refl n) (hO.rg hj2) (hO.at hL0 hj2) ⟨hB.lo, hB.hi hjn⟩ (ovr_at hj) hcat hR d ?_
  rw [ovr_up (getE_lt hj), hL]
  exact kk
theorem v_cvB2 (X : Cx p args s m meth c g cc nL own rt N0) {y : MethodName} {bytes : ByteArray} {maxL idx d ci : Nat} {ret : Option FieldType} {As : List Value} {r : Option Value} {fs : List Value} {st0 st' : List Value} (hz : N = N0 + cs) {n : Nat} (hy : YV y bytes maxL ret n ci) (hml : Cond.methodLink own idx y ∈ gT) {M M3 M' : List va_E} (j jr : Nat) (hC : Cb2 l g y (.code y bytes maxL ret) d (.ref (o + jr) :: As) N (o + j) M o2 M3 r M') (hB : BB g N o nB) (hO : OB g N (ovr f o L) (o + j) M.length o2 M3.length M3) (hjn : j + M.length ≤ nB) (hs : sbl L j M.length = M) (hLl : j + M.length ≤ L.length) (hM : M'.length = M.length) (hL : spl L j M' = L') (hrec : L[jr]? = some (.inr (ci, fs))) (hjr : jr < nB) (hst0 : st0 = As.reverse ++ .ref (o + jr) :: st) (hlen : As.length = n) (hcat : (st.map fun v => v.category).sum ≤ 8) (hR : d + 1 ≤ R.frames ∧ 8 + (maxL + 11) + 35 * d ≤ R.locals) (hf : cs + 0 ≤ R.cells ∧ ss + 0 ≤ R.slots) (dd : decode cc pc = .ok (.invokevirtual idx, 3)) (hst : r.toList ++ st = st') (kk : V p l e R s m args below meth c Q g nL cs ss N (ovr f o L') (pc + 3) lv st') : V p l e R s m args below meth c Q g nL cs ss N (ovr f o L) pc lv st0 := by
  have h1 := hC (ovr f o L) (hB.sub hjn) hO
  rw [ovr_foc hLl hs, ovr_spl (by rw [hM]; exact hLl), hL] at h1
  exact v_callV X hz hy hml h1 ⟨hB.lo, hB.hi hjr⟩ (ovr_at hrec) hst0 hlen hcat hR hf dd hst kk
end V6
end
section
/-! the static helpers and the shuttles -/
set_option maxRecDepth 100000 in
set_option maxHeartbeats 4000000 in
theorem c_X7_isWithin (l : Launch) (g : Ge) (v a b : Int32) : Cs l g yX7_isWithin (.code yX7_isWithin cX7_isWithin 3 (some .boolean)) 0 [.int v, .int a, .int b] (some (.int (bI (a ≤ v ∧ v ≤ b)))) := by
  intro N f
  refine ct_of (own := RX7) [some (.int v), some (.int a), some (.int b)] (by decide +kernel) rfl rfl (Nat.le_of_ble_eq_true rfl) ?_
  intro vp ve vs vm va vb vt vc hnm X
  refine v_iload_n X dX7_isWithin_0 (i := 0) rfl rfl ?_
  refine v_iload_n X dX7_isWithin_1 (i := 1) rfl rfl ?_
  refine v_icmp_lt X dX7_isWithin_2 (tgt := 14) (by decide) (fun c2 => ?_) (fun c2 => ?_)
  · skip
    refine v_iconst X dX7_isWithin_14 (v := (0 : Int32)) (by decide) ?_
    exact v_zret X rfl dX7_isWithin_15 (rfl) (by simp [bI, c2, Int32.not_le.mpr c2]) (rfl)
  · skip
    refine v_iload_n X dX7_isWithin_5 (i := 0) rfl rfl ?_
    refine v_iload_n X dX7_isWithin_6 (i := 2) rfl rfl ?_
    refine v_icmp_gt X dX7_isWithin_7 (tgt := 14) (by decide) (fun c7 => ?_) (fun c7 => ?_)
    · skip
      refine v_iconst X dX7_isWithin_14 (v := (0 : Int32)) (by decide) ?_
      exact v_zret X rfl dX7_isWithin_15 (rfl) (by simp [bI, c2, Int32.not_lt.mpr c2, c7, Int32.not_le.mpr c7]) (rfl)
    · skip
      refine v_iconst X dX7_isWithin_10 (v := (1 : Int32)) (by decide) ?_
      refine v_goto X dX7_isWithin_11 (tgt := 15) (by decide) ?_
      exact v_zret X rfl dX7_isWithin_15 (rfl) (by simp [bI, c2, Int32.not_lt.mpr c2, c7, Int32.not_lt.mpr c7]) (rfl)
set_option maxRecDepth 100000 in
set_option maxHeartbeats 4000000 in
theorem c_X7_isShuttle (l : Launch) (g : Ge) (v : Int32) : Cs l g yX7_isShuttle (.code yX7_isShuttle cX7_isShuttle 1 (some .boolean)) 1 [.int v] (some (.int (bI ((0 : Int32) ≤ v ∧ v ≤ (4 : Int32))))) := by
  intro N f
  refine ct_of (own := RX7) [some (.int v)] (by decide +kernel) rfl rfl (Nat.le_of_ble_eq_true rfl) ?_
  intro vp ve vs vm va vb vt vc hnm X
  refine v_iload_n X dX7_isShuttle_0 (i := 0) rfl rfl ?_
  refine v_iconst X dX7_isShuttle_1 (v := (0 : Int32)) (by decide) ?_
  refine v_iconst X dX7_isShuttle_2 (v := (4 : Int32)) (by decide) ?_
  refine v_cs X rfl yv_X7_isWithin m_ml_X7_90 (c_X7_isWithin l g v (0 : Int32) (4 : Int32) ) rfl rfl (Nat.le_of_ble_eq_true rfl) ⟨Nat.le_of_ble_eq_true rfl, Nat.le_of_ble_eq_true rfl⟩ ⟨Nat.le_of_ble_eq_true rfl, Nat.le_of_ble_eq_true rfl⟩ dX7_isShuttle_3 rfl ?_
  exact v_zret X rfl dX7_isShuttle_6 (nar_b) (rfl) (rfl)
set_option maxRecDepth 100000 in
set_option maxHeartbeats 4000000 in
theorem c_X7_isThread (l : Launch) (g : Ge) (v : Int32) : Cs l g yX7_isThread (.code yX7_isThread cX7_isThread 1 (some .boolean)) 1 [.int v] (some (.int (bI ((0 : Int32) ≤ v ∧ v ≤ (11 : Int32))))) := by
  intro N f
  refine ct_of (own := RX7) [some (.int v)] (by decide +kernel) rfl rfl (Nat.le_of_ble_eq_true rfl) ?_
  intro vp ve vs vm va vb vt vc hnm X
  refine v_iload_n X dX7_isThread_0 (i := 0) rfl rfl ?_
  refine v_iconst X dX7_isThread_1 (v := (0 : Int32)) (by decide) ?_
  refine v_bipush X dX7_isThread_2 (v := (11 : Int32)) (by decide) ?_
  refine v_cs X rfl yv_X7_isWithin m_ml_X7_90 (c_X7_isWithin l g v (0 : Int32) (11 : Int32) ) rfl rfl (Nat.le_of_ble_eq_true rfl) ⟨Nat.le_of_ble_eq_true rfl, Nat.le_of_ble_eq_true rfl⟩ ⟨Nat.le_of_ble_eq_true rfl, Nat.le_of_ble_eq_true rfl⟩ dX7_isThread_4 rfl ?_
  exact v_zret X rfl dX7_isThread_7 (nar_b) (rfl) (rfl)
set_option maxRecDepth 100000 in
set_option maxHeartbeats 4000000 in
theorem c_X7_isBox (l : Launch) (g : Ge) (s b : Int32) : Cs l g yX7_isBox (.code yX7_isBox cX7_isBox 2 (some .boolean)) 1 [.int s, .int b] (some (.int (bI ((s = 0 ∧ 0 ≤ b ∧ b ≤ 3) ∨ (s = 1 ∧ 0 ≤ b ∧ b ≤ 1))))) := by
  intro N f
  refine ct_of (own := RX7) [some (.int s), some (.int b)] (by decide +kernel) rfl rfl (Nat.le_of_ble_eq_true rfl) ?_
  intro vp ve vs vm va vb vt vc hnm X
  refine v_iload_n X dX7_isBox_0 (i := 0) rfl rfl ?_
  refine v_if_ne X dX7_isBox_1 (tgt := 13) (by decide) (fun c1 => ?_) (fun c1 => ?_)
  · skip
    refine v_iload_n X dX7_isBox_13 (i := 0) rfl rfl ?_
    refine v_iconst X dX7_isBox_14 (v := (1 : Int32)) (by decide) ?_
    refine v_icmp_ne X dX7_isBox_15 (tgt := 31) (by decide) (fun c15 => ?_) (fun c15 => ?_)
    · skip
      refine v_iconst X dX7_isBox_31 (v := (0 : Int32)) (by decide) ?_
      exact v_zret X rfl dX7_isBox_32 (rfl) (by simp [bI, c1, c15]) (rfl)
    · skip
      refine v_iload_n X dX7_isBox_18 (i := 1) rfl rfl ?_
      refine v_iconst X dX7_isBox_19 (v := (0 : Int32)) (by decide) ?_
      refine v_iconst X dX7_isBox_20 (v := (1 : Int32)) (by decide) ?_
      refine v_cs X rfl yv_X7_isWithin m_ml_X7_90 (c_X7_isWithin l g b (0 : Int32) (1 : Int32) ) rfl rfl (Nat.le_of_ble_eq_true rfl) ⟨Nat.le_of_ble_eq_true rfl, Nat.le_of_ble_eq_true rfl⟩ ⟨Nat.le_of_ble_eq_true rfl, Nat.le_of_ble_eq_true rfl⟩ dX7_isBox_21 rfl ?_
      refine v_if_eqB X dX7_isBox_24 (tgt := 31) (by decide) (fun c24 => ?_) (fun c24 => ?_)
      · skip
        refine v_iconst X dX7_isBox_31 (v := (0 : Int32)) (by decide) ?_
        exact v_zret X rfl dX7_isBox_32 (rfl) (by simp [bI, c1, c15, c24]) (rfl)
      · skip
        refine v_iconst X dX7_isBox_27 (v := (1 : Int32)) (by decide) ?_
        refine v_goto X dX7_isBox_28 (tgt := 32) (by decide) ?_
        exact v_zret X rfl dX7_isBox_32 (rfl) (by simp [bI, c1, c15, c24]) (rfl)
  · skip
    refine v_iload_n X dX7_isBox_4 (i := 1) rfl rfl ?_
    refine v_iconst X dX7_isBox_5 (v := (0 : Int32)) (by decide) ?_
    refine v_iconst X dX7_isBox_6 (v := (3 : Int32)) (by decide) ?_
    refine v_cs X rfl yv_X7_isWithin m_ml_X7_90 (c_X7_isWithin l g b (0 : Int32) (3 : Int32) ) rfl rfl (Nat.le_of_ble_eq_true rfl) ⟨Nat.le_of_ble_eq_true rfl, Nat.le_of_ble_eq_true rfl⟩ ⟨Nat.le_of_ble_eq_true rfl, Nat.le_of_ble_eq_true rfl⟩ dX7_isBox_7 rfl ?_
    refine v_if_neB X dX7_isBox_10 (tgt := 27) (by decide) (fun c10 => ?_) (fun c10 => ?_)
    · skip
      refine v_iconst X dX7_isBox_27 (v := (1 : Int32)) (by decide) ?_
      refine v_goto X dX7_isBox_28 (tgt := 32) (by decide) ?_
      exact v_zret X rfl dX7_isBox_32 (rfl) (by simp [bI, c1, c10]) (rfl)
    · skip
      refine v_iload_n X dX7_isBox_13 (i := 0) rfl rfl ?_
      refine v_iconst X dX7_isBox_14 (v := (1 : Int32)) (by decide) ?_
      refine v_icmp_ne X dX7_isBox_15 (tgt := 31) (by decide) (fun c15 => ?_) (fun c15 => ?_)
      · skip
        refine v_iconst X dX7_isBox_31 (v := (0 : Int32)) (by decide) ?_
        exact v_zret X rfl dX7_isBox_32 (rfl) (by simp [bI, c1, c10, c15]) (rfl)
      · skip
        exact absurd (c1.symm.trans c15) (by decide)
set_option maxRecDepth 100000 in
set_option maxHeartbeats 4000000 in
theorem c_X7_contains (l : Launch) (g : Ge) (s k : Int32) : Cs l g yX7_contains (.code yX7_contains cX7_contains 2 (some .boolean)) 0 [.int s, .int k] (some (.int (bI ((s >>> (k &&& 31)) &&& 1 = 1)))) := by
  intro N f
  refine ct_of (own := RX7) [some (.int s), some (.int k)] (by decide +kernel) rfl rfl (Nat.le_of_ble_eq_true rfl) ?_
  intro vp ve vs vm va vb vt vc hnm X
  refine v_iload_n X dX7_contains_0 (i := 0) rfl rfl ?_
  refine v_iload_n X dX7_contains_1 (i := 1) rfl rfl ?_
  refine v_ishr X dX7_contains_2 ?_
  refine v_iconst X dX7_contains_3 (v := (1 : Int32)) (by decide) ?_
  refine v_iand X dX7_contains_4 ?_
  refine v_iconst X dX7_contains_5 (v := (1 : Int32)) (by decide) ?_
  refine v_icmp_ne X dX7_contains_6 (tgt := 13) (by decide) (fun c6 => ?_) (fun c6 => ?_)
  · skip
    refine v_iconst X dX7_contains_13 (v := (0 : Int32)) (by decide) ?_
    exact v_zret X rfl dX7_contains_14 (rfl) (by simp [bI, c6]) (rfl)
  · skip
    refine v_iconst X dX7_contains_9 (v := (1 : Int32)) (by decide) ?_
    refine v_goto X dX7_contains_10 (tgt := 14) (by decide) ?_
    exact v_zret X rfl dX7_contains_14 (rfl) (by simp [bI, c6]) (rfl)
def fndF (σ : Nat → Int32) (a b : Int32) : Nat → Nat → Int32
  | 0, _ => -6
  | n + 1, k => if σ (14 + 4 * k) = a ∧ σ (15 + 4 * k) = b then nI k else fndF σ a b n (k + 1)
def fnd (σ : Nat → Int32) (a b : Int32) : Int32 := fndF σ a b 5 0
theorem fndF_hit {σ : Nat → Int32} {a b : Int32} {k : Nat} (hk : k < 5) (h1 : σ (14 + 4 * k) = a) (h2 : σ (15 + 4 * k) = b) : fndF σ a b (5 - k) k = nI k := by
  obtain ⟨n, hn⟩ : ∃ n, 5 - k = n + 1 := ⟨5 - k - 1, by omega⟩
  rw [hn, fndF, if_pos ⟨h1, h2⟩]
theorem fndF_miss {σ : Nat → Int32} {a b : Int32} {k : Nat} (hk : k < 5) (h : ¬ (σ (14 + 4 * k) = a ∧ σ (15 + 4 * k) = b)) : fndF σ a b (5 - k) k = fndF σ a b (5 - (k + 1)) (k + 1) := by
  obtain ⟨n, hn⟩ : ∃ n, 5 - k = n + 1 := ⟨5 - k - 1, by omega⟩
  rw [hn, fndF, if_neg h]
  congr 1; omega
def nbx (σ : Nat → Int32) : Nat → Int32
  | 0 => 0
  | k + 1 => if σ (14 + 4 * k) = -6 then nbx σ k else nbx σ k + 1
theorem lt_of_nI {a b : Nat} (ha : a < 2 ^ 31) (hb : b < 2 ^ 31) (h : nI a < nI b) : a < b := (nI_ltI ha hb).mp h
theorem le_of_nI {a b : Nat} (ha : a < 2 ^ 31) (hb : b < 2 ^ 31) (h : nI a ≤ nI b) : a ≤ b := (nI_leI ha hb).mp h
theorem rng5 {k : Nat} (hk : k < 5) : (0 : Int32) ≤ nI k ∧ nI k ≤ (4 : Int32) := ⟨(nI_leI (a := 0) (by omega) (by omega)).mpr (by omega), (nI_leI (b := 4) (by omega) (by omega)).mpr (by omega)⟩
set_option maxRecDepth 100000 in
set_option maxHeartbeats 4000000 in
theorem c_X5_isInDrawer (l : Launch) (g : Ge) (N o : Nat) (σ : Nat → Int32) (k : Nat) (hk : k < 5) : Cb l g yX5_isInDrawer (.code yX5_isInDrawer cX5_isInDrawer 2 (some .boolean)) 2 [.ref o, .int (nI k)] N o (shL g o σ) (some (.int (bI (σ (14 + 4 * k) = -6)))) (shL g o σ) := by
  intro f hB0
  have hB : BB g N o 5 := hB0
  refine ct_of (own := RX5) [some (.ref o), some (.int (nI k))] (by decide +kernel) rfl rfl (Nat.le_of_ble_eq_true rfl) ?_
  intro vp ve vs vm va vb vt vc hnm X
  refine v_iload_n X dX5_isInDrawer_0 (i := 1) rfl rfl ?_
  refine v_csN X rfl yv_X7_isShuttle m_mn_X5_30 (c_X7_isShuttle l g (nI k) ) rfl rfl (Nat.le_of_ble_eq_true rfl) ⟨Nat.le_of_ble_eq_true rfl, Nat.le_of_ble_eq_true rfl⟩ ⟨Nat.le_of_ble_eq_true rfl, Nat.le_of_ble_eq_true rfl⟩ dX5_isInDrawer_1 rfl ?_
  refine v_if_eqB X dX5_isInDrawer_4 (tgt := 22) (by decide) (fun c4 => ?_) (fun c4 => ?_)
  · skip
    exact absurd (rng5 hk) c4
  · skip
    refine v_aload_n X dX5_isInDrawer_7 (i := 0) rfl rfl ?_
    refine v_getB X hB cf5 2 (Nat.le_of_ble_eq_true rfl) m_fl_X5_18 dX5_isInDrawer_8 0 (Nat.le_of_ble_eq_true rfl) rfl rfl ?_
    refine v_iload_n X dX5_isInDrawer_11 (i := 1) rfl rfl ?_
    refine v_iald_vw (b := 14) (s' := 4) X hB dX5_isInDrawer_12 3 (Nat.le_of_ble_eq_true rfl) rfl k rfl (by omega) (Nat.le_of_ble_eq_true rfl) ?_
    refine v_bipush X dX5_isInDrawer_13 (v := (-6 : Int32)) (by decide) ?_
    refine v_icmp_ne X dX5_isInDrawer_15 (tgt := 22) (by decide) (fun c15 => ?_) (fun c15 => ?_)
    · skip
      refine v_iconst X dX5_isInDrawer_22 (v := (0 : Int32)) (by decide) ?_
      exact v_zret X rfl dX5_isInDrawer_23 (rfl) (by simp [bI, c4, c15]) (rfl)
    · skip
      refine v_iconst X dX5_isInDrawer_18 (v := (1 : Int32)) (by decide) ?_
      refine v_goto X dX5_isInDrawer_19 (tgt := 23) (by decide) ?_
      exact v_zret X rfl dX5_isInDrawer_23 (rfl) (by simp [bI, c4, c15]) (rfl)
set_option maxRecDepth 100000 in
set_option maxHeartbeats 4000000 in
theorem c_X5_isOnLeft (l : Launch) (g : Ge) (N o : Nat) (σ : Nat → Int32) (k : Nat) (hk : k < 5) : Cb l g yX5_isOnLeft (.code yX5_isOnLeft cX5_isOnLeft 2 (some .boolean)) 2 [.ref o, .int (nI k)] N o (shL g o σ) (some (.int (bI (σ (14 + 4 * k) = 0)))) (shL g o σ) := by
  intro f hB0
  have hB : BB g N o 5 := hB0
  refine ct_of (own := RX5) [some (.ref o), some (.int (nI k))] (by decide +kernel) rfl rfl (Nat.le_of_ble_eq_true rfl) ?_
  intro vp ve vs vm va vb vt vc hnm X
  refine v_iload_n X dX5_isOnLeft_0 (i := 1) rfl rfl ?_
  refine v_csN X rfl yv_X7_isShuttle m_mn_X5_30 (c_X7_isShuttle l g (nI k) ) rfl rfl (Nat.le_of_ble_eq_true rfl) ⟨Nat.le_of_ble_eq_true rfl, Nat.le_of_ble_eq_true rfl⟩ ⟨Nat.le_of_ble_eq_true rfl, Nat.le_of_ble_eq_true rfl⟩ dX5_isOnLeft_1 rfl ?_
  refine v_if_eqB X dX5_isOnLeft_4 (tgt := 20) (by decide) (fun c4 => ?_) (fun c4 => ?_)
  · skip
    exact absurd (rng5 hk) c4
  · skip
    refine v_aload_n X dX5_isOnLeft_7 (i := 0) rfl rfl ?_
    refine v_getB X hB cf5 2 (Nat.le_of_ble_eq_true rfl) m_fl_X5_18 dX5_isOnLeft_8 0 (Nat.le_of_ble_eq_true rfl) rfl rfl ?_
    refine v_iload_n X dX5_isOnLeft_11 (i := 1) rfl rfl ?_
    refine v_iald_vw (b := 14) (s' := 4) X hB dX5_isOnLeft_12 3 (Nat.le_of_ble_eq_true rfl) rfl k rfl (by omega) (Nat.le_of_ble_eq_true rfl) ?_
    refine v_if_ne X dX5_isOnLeft_13 (tgt := 20) (by decide) (fun c13 => ?_) (fun c13 => ?_)
    · skip
      refine v_iconst X dX5_isOnLeft_20 (v := (0 : Int32)) (by decide) ?_
      exact v_zret X rfl dX5_isOnLeft_21 (rfl) (by simp [bI, c4, c13]) (rfl)
    · skip
      refine v_iconst X dX5_isOnLeft_16 (v := (1 : Int32)) (by decide) ?_
      refine v_goto X dX5_isOnLeft_17 (tgt := 21) (by decide) ?_
      exact v_zret X rfl dX5_isOnLeft_21 (rfl) (by simp [bI, c4, c13]) (rfl)
set_option maxRecDepth 100000 in
set_option maxHeartbeats 4000000 in
theorem c_X5_hasYarn (l : Launch) (g : Ge) (N o : Nat) (σ : Nat → Int32) (k : Nat) (hk : k < 5) : Cb l g yX5_hasYarn (.code yX5_hasYarn cX5_hasYarn 2 (some .boolean)) 2 [.ref o, .int (nI k)] N o (shL g o σ) (some (.int (bI (0 < σ (13 + 4 * k))))) (shL g o σ) := by
  intro f hB0
  have hB : BB g N o 5 := hB0
  refine ct_of (own := RX5) [some (.ref o), some (.int (nI k))] (by decide +kernel) rfl rfl (Nat.le_of_ble_eq_true rfl) ?_
  intro vp ve vs vm va vb vt vc hnm X
  refine v_iload_n X dX5_hasYarn_0 (i := 1) rfl rfl ?_
  refine v_csN X rfl yv_X7_isShuttle m_mn_X5_30 (c_X7_isShuttle l g (nI k) ) rfl rfl (Nat.le_of_ble_eq_true rfl) ⟨Nat.le_of_ble_eq_true rfl, Nat.le_of_ble_eq_true rfl⟩ ⟨Nat.le_of_ble_eq_true rfl, Nat.le_of_ble_eq_true rfl⟩ dX5_hasYarn_1 rfl ?_
  refine v_if_eqB X dX5_hasYarn_4 (tgt := 20) (by decide) (fun c4 => ?_) (fun c4 => ?_)
  · skip
    exact absurd (rng5 hk) c4
  · skip
    refine v_aload_n X dX5_hasYarn_7 (i := 0) rfl rfl ?_
    refine v_getB X hB cf5 1 (Nat.le_of_ble_eq_true rfl) m_fl_X5_15 dX5_hasYarn_8 0 (Nat.le_of_ble_eq_true rfl) rfl rfl ?_
    refine v_iload_n X dX5_hasYarn_11 (i := 1) rfl rfl ?_
    refine v_iald_vw (b := 13) (s' := 4) X hB dX5_hasYarn_12 2 (Nat.le_of_ble_eq_true rfl) rfl k rfl (by omega) (Nat.le_of_ble_eq_true rfl) ?_
    refine v_if_le X dX5_hasYarn_13 (tgt := 20) (by decide) (fun c13 => ?_) (fun c13 => ?_)
    · skip
      refine v_iconst X dX5_hasYarn_20 (v := (0 : Int32)) (by decide) ?_
      exact v_zret X rfl dX5_hasYarn_21 (rfl) (by simp [bI, c4, c13, Int32.not_lt.mpr c13]) (rfl)
    · skip
      refine v_iconst X dX5_hasYarn_16 (v := (1 : Int32)) (by decide) ?_
      refine v_goto X dX5_hasYarn_17 (tgt := 21) (by decide) ?_
      exact v_zret X rfl dX5_hasYarn_21 (rfl) (by simp [bI, c4, c13, Int32.not_le.mpr c13]) (rfl)
set_option maxRecDepth 100000 in
set_option maxHeartbeats 4000000 in
theorem c_X5_colourOf (l : Launch) (g : Ge) (N o : Nat) (σ : Nat → Int32) (k : Nat) (hk : k < 5) : Cb l g yX5_colourOf (.code yX5_colourOf cX5_colourOf 2 (some .int)) 2 [.ref o, .int (nI k)] N o (shL g o σ) (some (.int (σ (12 + 4 * k)))) (shL g o σ) := by
  intro f hB0
  have hB : BB g N o 5 := hB0
  refine ct_of (own := RX5) [some (.ref o), some (.int (nI k))] (by decide +kernel) rfl rfl (Nat.le_of_ble_eq_true rfl) ?_
  intro vp ve vs vm va vb vt vc hnm X
  refine v_iload_n X dX5_colourOf_0 (i := 1) rfl rfl ?_
  refine v_csN X rfl yv_X7_isShuttle m_mn_X5_30 (c_X7_isShuttle l g (nI k) ) rfl rfl (Nat.le_of_ble_eq_true rfl) ⟨Nat.le_of_ble_eq_true rfl, Nat.le_of_ble_eq_true rfl⟩ ⟨Nat.le_of_ble_eq_true rfl, Nat.le_of_ble_eq_true rfl⟩ dX5_colourOf_1 rfl ?_
  refine v_if_eqB X dX5_colourOf_4 (tgt := 16) (by decide) (fun c4 => ?_) (fun c4 => ?_)
  · skip
    exact absurd (rng5 hk) c4
  · skip
    refine v_aload_n X dX5_colourOf_7 (i := 0) rfl rfl ?_
    refine v_getB X hB cf5 0 (Nat.le_of_ble_eq_true rfl) m_fl_X5_9 dX5_colourOf_8 0 (Nat.le_of_ble_eq_true rfl) rfl rfl ?_
    refine v_iload_n X dX5_colourOf_11 (i := 1) rfl rfl ?_
    refine v_iald_vw (b := 12) (s' := 4) X hB dX5_colourOf_12 1 (Nat.le_of_ble_eq_true rfl) rfl k rfl (by omega) (Nat.le_of_ble_eq_true rfl) ?_
    refine v_goto X dX5_colourOf_13 (tgt := 18) (by decide) ?_
    exact v_iret X rfl dX5_colourOf_18 (rfl) (rfl)
set_option maxRecDepth 100000 in
set_option maxHeartbeats 4000000 in
theorem c_X5_place (l : Launch) (g : Ge) (N o : Nat) (σ : Nat → Int32) (k : Nat) (hk : k < 5) (a b : Int32) : Cb l g yX5_place (.code yX5_place cX5_place 4 none) 2 [.ref o, .int (nI k), .int a, .int b] N o (shL g o σ) none (shL g o (upd (upd σ (14 + 4 * k) a) (15 + 4 * k) b)) := by
  intro f hB0
  have hB : BB g N o 5 := hB0
  refine ct_of (own := RX5) [some (.ref o), some (.int (nI k)), some (.int a), some (.int b)] (by decide +kernel) rfl rfl (Nat.le_of_ble_eq_true rfl) ?_
  intro vp ve vs vm va vb vt vc hnm X
  refine v_iload_n X dX5_place_0 (i := 1) rfl rfl ?_
  refine v_csN X rfl yv_X7_isShuttle m_mn_X5_30 (c_X7_isShuttle l g (nI k) ) rfl rfl (Nat.le_of_ble_eq_true rfl) ⟨Nat.le_of_ble_eq_true rfl, Nat.le_of_ble_eq_true rfl⟩ ⟨Nat.le_of_ble_eq_true rfl, Nat.le_of_ble_eq_true rfl⟩ dX5_place_1 rfl ?_
  refine v_if_eqB X dX5_place_4 (tgt := 21) (by decide) (fun c4 => ?_) (fun c4 => ?_)
  · skip
    exact absurd (rng5 hk) c4
  · skip
    refine v_aload_n X dX5_place_7 (i := 0) rfl rfl ?_
    refine v_getB X hB cf5 2 (Nat.le_of_ble_eq_true rfl) m_fl_X5_18 dX5_place_8 0 (Nat.le_of_ble_eq_true rfl) rfl rfl ?_
    refine v_iload_n X dX5_place_11 (i := 1) rfl rfl ?_
    refine v_iload_n X dX5_place_12 (i := 2) rfl rfl ?_
    refine v_iastB (n := 5) X hB dX5_place_13 3 (Nat.le_of_ble_eq_true rfl) rfl k rfl (by omega) (Nat.le_of_ble_eq_true rfl) (L' := (shL g o (upd σ (14 + 4 * k) a))) (w_sh_3 (by omega)) ?_
    refine v_aload_n X dX5_place_14 (i := 0) rfl rfl ?_
    refine v_getB X hB cf5 3 (Nat.le_of_ble_eq_true rfl) m_fl_X5_21 dX5_place_15 0 (Nat.le_of_ble_eq_true rfl) rfl rfl ?_
    refine v_iload_n X dX5_place_18 (i := 1) rfl rfl ?_
    refine v_iload_n X dX5_place_19 (i := 3) rfl rfl ?_
    refine v_iastB (n := 5) X hB dX5_place_20 4 (Nat.le_of_ble_eq_true rfl) rfl k rfl (by omega) (Nat.le_of_ble_eq_true rfl) (L' := (shL g o (upd (upd σ (14 + 4 * k) a) (15 + 4 * k) b))) (w_sh_4 (by omega)) ?_
    exact v_vret X rfl dX5_place_21 (rfl) (rfl)
set_option maxRecDepth 100000 in
set_option maxHeartbeats 4000000 in
theorem c_X5_addYarn (l : Launch) (g : Ge) (N o : Nat) (σ : Nat → Int32) (k : Nat) (hk : k < 5) (a : Int32) : Cb l g yX5_addYarn (.code yX5_addYarn cX5_addYarn 3 none) 2 [.ref o, .int (nI k), .int a] N o (shL g o σ) none (shL g o (upd σ (13 + 4 * k) (σ (13 + 4 * k) + a))) := by
  intro f hB0
  have hB : BB g N o 5 := hB0
  refine ct_of (own := RX5) [some (.ref o), some (.int (nI k)), some (.int a)] (by decide +kernel) rfl rfl (Nat.le_of_ble_eq_true rfl) ?_
  intro vp ve vs vm va vb vt vc hnm X
  refine v_iload_n X dX5_addYarn_0 (i := 1) rfl rfl ?_
  refine v_csN X rfl yv_X7_isShuttle m_mn_X5_30 (c_X7_isShuttle l g (nI k) ) rfl rfl (Nat.le_of_ble_eq_true rfl) ⟨Nat.le_of_ble_eq_true rfl, Nat.le_of_ble_eq_true rfl⟩ ⟨Nat.le_of_ble_eq_true rfl, Nat.le_of_ble_eq_true rfl⟩ dX5_addYarn_1 rfl ?_
  refine v_if_eqB X dX5_addYarn_4 (tgt := 17) (by decide) (fun c4 => ?_) (fun c4 => ?_)
  · skip
    exact absurd (rng5 hk) c4
  · skip
    refine v_aload_n X dX5_addYarn_7 (i := 0) rfl rfl ?_
    refine v_getB X hB cf5 1 (Nat.le_of_ble_eq_true rfl) m_fl_X5_15 dX5_addYarn_8 0 (Nat.le_of_ble_eq_true rfl) rfl rfl ?_
    refine v_iload_n X dX5_addYarn_11 (i := 1) rfl rfl ?_
    refine v_dup2 X dX5_addYarn_12 rfl rfl ?_
    refine v_iald_vw (b := 13) (s' := 4) X hB dX5_addYarn_13 2 (Nat.le_of_ble_eq_true rfl) rfl k rfl (by omega) (Nat.le_of_ble_eq_true rfl) ?_
    refine v_iload_n X dX5_addYarn_14 (i := 2) rfl rfl ?_
    refine v_iadd X dX5_addYarn_15 ?_
    refine v_iastB (n := 5) X hB dX5_addYarn_16 2 (Nat.le_of_ble_eq_true rfl) rfl k rfl (by omega) (Nat.le_of_ble_eq_true rfl) (L' := (shL g o (upd σ (13 + 4 * k) ((σ (13 + 4 * k)) + a)))) (w_sh_2 (by omega)) ?_
    exact v_vret X rfl dX5_addYarn_17 (rfl) (rfl)
set_option maxRecDepth 100000 in
set_option maxHeartbeats 4000000 in
theorem c_X5_findIn (l : Launch) (g : Ge) (N o : Nat) (σ : Nat → Int32) (a b : Int32) : Cb l g yX5_findIn (.code yX5_findIn cX5_findIn 4 (some .int)) 0 [.ref o, .int a, .int b] N o (shL g o σ) (some (.int (fnd σ a b))) (shL g o σ) := by
  intro f hB0
  have hB : BB g N o 5 := hB0
  refine ct_of (own := RX5) [some (.ref o), some (.int a), some (.int b), none] (by decide +kernel) rfl rfl (Nat.le_of_ble_eq_true rfl) ?_
  intro vp ve vs vm va vb vt vc hnm X
  refine v_iconst X dX5_findIn_0 (v := (0 : Int32)) (by decide) ?_
  refine v_istore_n X dX5_findIn_1 (i := 3) rfl (Nat.le_of_ble_eq_true rfl) rfl ?_
  have LP2 : ∀ (n_ : Nat) (k : Nat), (k ≤ 5) → (fnd σ a b = fndF σ a b (5 - k) k) → 5 - k < n_ → Vm vp l ve vs vm va vb vt vc g 0 4 N (some (.int (fnd σ a b))) (ovr f o (shL g o σ)) (ovr f o (shL g o σ)) 2 [some (.ref o), some (.int a), some (.int b), some (.int (nI k))] [] := by
    intro n_
    induction n_ with
    | zero => intro k hk hr hm_; exact absurd hm_ (Nat.not_lt_zero _)
    | succ n_ ih2 =>
      intro k hk hr hm2
      refine v_iload_n X dX5_findIn_2 (i := 3) rfl rfl ?_
      refine v_iconst X dX5_findIn_3 (v := (5 : Int32)) (by decide) ?_
      refine v_icmp_ge X dX5_findIn_4 (tgt := 35) (by decide) (fun c4 => ?_) (fun c4 => ?_)
      · skip
        have hk5 : k = 5 := Nat.le_antisymm hk (le_of_nI (a := 5) (by omega) (by omega) c4)
        refine v_bipush X dX5_findIn_35 (v := (-6 : Int32)) (by decide) ?_
        exact v_iret X rfl dX5_findIn_37 (by rw [hr, hk5]; rfl) (rfl)
      · skip
        have hk5 : k < 5 := lt_of_nI (b := 5) (by omega) (by omega) c4
        refine v_aload_n X dX5_findIn_7 (i := 0) rfl rfl ?_
        refine v_getB X hB cf5 2 (Nat.le_of_ble_eq_true rfl) m_fl_X5_18 dX5_findIn_8 0 (Nat.le_of_ble_eq_true rfl) rfl rfl ?_
        refine v_iload_n X dX5_findIn_11 (i := 3) rfl rfl ?_
        refine v_iald_vw (b := 14) (s' := 4) X hB dX5_findIn_12 3 (Nat.le_of_ble_eq_true rfl) rfl k rfl (by omega) (Nat.le_of_ble_eq_true rfl) ?_
        refine v_iload_n X dX5_findIn_13 (i := 1) rfl rfl ?_
        refine v_icmp_ne X dX5_findIn_14 (tgt := 29) (by decide) (fun c14 => ?_) (fun c14 => ?_)
        · skip
          refine v_iinc X dX5_findIn_29 (v := nI (k + 1)) rfl (ix_inc rfl) (Nat.le_of_ble_eq_true rfl) rfl ?_
          refine v_goto X dX5_findIn_32 (tgt := 2) (by decide) ?_
          exact ih2 (k + 1) (by omega) (hr.trans (fndF_miss hk5 (fun q => c14 q.1))) (by omega)
        · skip
          refine v_aload_n X dX5_findIn_17 (i := 0) rfl rfl ?_
          refine v_getB X hB cf5 3 (Nat.le_of_ble_eq_true rfl) m_fl_X5_21 dX5_findIn_18 0 (Nat.le_of_ble_eq_true rfl) rfl rfl ?_
          refine v_iload_n X dX5_findIn_21 (i := 3) rfl rfl ?_
          refine v_iald_vw (b := 15) (s' := 4) X hB dX5_findIn_22 4 (Nat.le_of_ble_eq_true rfl) rfl k rfl (by omega) (Nat.le_of_ble_eq_true rfl) ?_
          refine v_iload_n X dX5_findIn_23 (i := 2) rfl rfl ?_
          refine v_icmp_ne X dX5_findIn_24 (tgt := 29) (by decide) (fun c24 => ?_) (fun c24 => ?_)
          · skip
            refine v_iinc X dX5_findIn_29 (v := nI (k + 1)) rfl (ix_inc rfl) (Nat.le_of_ble_eq_true rfl) rfl ?_
            refine v_goto X dX5_findIn_32 (tgt := 2) (by decide) ?_
            exact ih2 (k + 1) (by omega) (hr.trans (fndF_miss hk5 (fun q => c24 q.2))) (by omega)
          · skip
            refine v_iload_n X dX5_findIn_27 (i := 3) rfl rfl ?_
            exact v_iret X rfl dX5_findIn_28 (congrArg (fun z => some (Value.int z)) (hr.trans (fndF_hit hk5 c14 c24)).symm) (rfl)
  exact LP2 _ 0 (Nat.zero_le _) rfl (Nat.lt_succ_self _)
set_option maxRecDepth 100000 in
set_option maxHeartbeats 4000000 in
theorem c_X5_numberInBoxes (l : Launch) (g : Ge) (N o : Nat) (σ : Nat → Int32) : Cb l g yX5_numberInBoxes (.code yX5_numberInBoxes cX5_numberInBoxes 3 (some .int)) 0 [.ref o] N o (shL g o σ) (some (.int (nbx σ 5))) (shL g o σ) := by
  intro f hB0
  have hB : BB g N o 5 := hB0
  refine ct_of (own := RX5) [some (.ref o), none, none] (by decide +kernel) rfl rfl (Nat.le_of_ble_eq_true rfl) ?_
  intro vp ve vs vm va vb vt vc hnm X
  refine v_iconst X dX5_numberInBoxes_0 (v := (0 : Int32)) (by decide) ?_
  refine v_istore_n X dX5_numberInBoxes_1 (i := 1) rfl (Nat.le_of_ble_eq_true rfl) rfl ?_
  refine v_iconst X dX5_numberInBoxes_2 (v := (0 : Int32)) (by decide) ?_
  refine v_istore_n X dX5_numberInBoxes_3 (i := 2) rfl (Nat.le_of_ble_eq_true rfl) rfl ?_
  have LP4 : ∀ (n_ : Nat) (k : Nat), (k ≤ 5) → 5 - k < n_ → Vm vp l ve vs vm va vb vt vc g 0 3 N (some (.int (nbx σ 5))) (ovr f o (shL g o σ)) (ovr f o (shL g o σ)) 4 [some (.ref o), some (.int (nbx σ k)), some (.int (nI k))] [] := by
    intro n_
    induction n_ with
    | zero => intro k hk hm_; exact absurd hm_ (Nat.not_lt_zero _)
    | succ n_ ih4 =>
      intro k hk hm4
      refine v_iload_n X dX5_numberInBoxes_4 (i := 2) rfl rfl ?_
      refine v_iconst X dX5_numberInBoxes_5 (v := (5 : Int32)) (by decide) ?_
      refine v_icmp_ge X dX5_numberInBoxes_6 (tgt := 29) (by decide) (fun c6 => ?_) (fun c6 => ?_)
      · skip
        have hk5 : k = 5 := Nat.le_antisymm hk (le_of_nI (a := 5) (by omega) (by omega) c6)
        refine v_iload_n X dX5_numberInBoxes_29 (i := 1) rfl rfl ?_
        exact v_iret X rfl dX5_numberInBoxes_30 (by rw [hk5]) (rfl)
      · skip
        have hk5 : k < 5 := lt_of_nI (b := 5) (by omega) (by omega) c6
        refine v_aload_n X dX5_numberInBoxes_9 (i := 0) rfl rfl ?_
        refine v_getB X hB cf5 2 (Nat.le_of_ble_eq_true rfl) m_fl_X5_18 dX5_numberInBoxes_10 0 (Nat.le_of_ble_eq_true rfl) rfl rfl ?_
        refine v_iload_n X dX5_numberInBoxes_13 (i := 2) rfl rfl ?_
        refine v_iald_vw (b := 14) (s' := 4) X hB dX5_numberInBoxes_14 3 (Nat.le_of_ble_eq_true rfl) rfl k rfl (by omega) (Nat.le_of_ble_eq_true rfl) ?_
        refine v_bipush X dX5_numberInBoxes_15 (v := (-6 : Int32)) (by decide) ?_
        refine v_icmp_eq X dX5_numberInBoxes_17 (tgt := 23) (by decide) (fun c17 => ?_) (fun c17 => ?_)
        · skip
          refine v_iinc X dX5_numberInBoxes_23 (v := nI (k + 1)) rfl (ix_inc rfl) (Nat.le_of_ble_eq_true rfl) rfl ?_
          refine v_goto X dX5_numberInBoxes_26 (tgt := 4) (by decide) ?_
          exact V.cast (ih4 (k + 1) (by omega) (by omega)) (by simp only [nbx, if_pos c17]; rfl) (rfl) (rfl)
        · skip
          refine v_iinc X dX5_numberInBoxes_20 (v := ((nbx σ k) + (1))) rfl rfl (Nat.le_of_ble_eq_true rfl) rfl ?_
          refine v_iinc X dX5_numberInBoxes_23 (v := nI (k + 1)) rfl (ix_inc rfl) (Nat.le_of_ble_eq_true rfl) rfl ?_
          refine v_goto X dX5_numberInBoxes_26 (tgt := 4) (by decide) ?_
          exact V.cast (ih4 (k + 1) (by omega) (by omega)) (by simp only [nbx, if_neg c17]; rfl) (rfl) (rfl)
  exact LP4 _ 0 (Nat.zero_le _) (Nat.lt_succ_self _)
def stdB (σ σ2 : Nat → Int32) : Nat → Bool
  | 0 => true
  | k + 1 => stdB σ σ2 k && (decide (σ (14 + 4 * k) = σ2 (14 + 4 * k)) && decide (σ (15 + 4 * k) = σ2 (15 + 4 * k)))
theorem stdB_iff {σ σ2 : Nat → Int32} : ∀ {n : Nat}, stdB σ σ2 n = true ↔ ∀ i, i < n → σ (14 + 4 * i) = σ2 (14 + 4 * i) ∧ σ (15 + 4 * i) = σ2 (15 + 4 * i)
  | 0 => by simp [stdB]
  | n + 1 => by
    rw [stdB, Bool.and_eq_true, Bool.and_eq_true, decide_eq_true_eq, decide_eq_true_eq, stdB_iff]
    constructor
    · rintro ⟨h1, h2⟩ i hi
      rcases Nat.lt_succ_iff_lt_or_eq.mp hi with h | h
      · exact h1 i h
      · subst h; exact h2
    · intro h
      exact ⟨fun i hi => h i (by omega), h n (by omega)⟩
set_option maxRecDepth 100000 in
set_option maxHeartbeats 4000000 in
theorem c_X5_standAs (l : Launch) (g : Ge) (N o o2 : Nat) (σ σ2 : Nat → Int32) : Cb2 l g yX5_standAs (.code yX5_standAs cX5_standAs 3 (some .boolean)) 0 [.ref o, .ref o2] N o (shL g o σ) o2 (shL g o2 σ2) (some (.int (bI (stdB σ σ2 5 = true)))) (shL g o σ) := by
  intro f hB0 hO0
  have hB : BB g N o 5 := hB0
  have hO : OB g N f o 5 o2 5 (shL g o2 σ2) := hO0
  refine ct_of (own := RX5) [some (.ref o), some (.ref o2), none] (by decide +kernel) rfl rfl (Nat.le_of_ble_eq_true rfl) ?_
  intro vp ve vs vm va vb vt vc hnm X
  refine v_iconst X dX5_standAs_0 (v := (0 : Int32)) (by decide) ?_
  refine v_istore_n X dX5_standAs_1 (i := 2) rfl (Nat.le_of_ble_eq_true rfl) rfl ?_
  have LP2 : ∀ (n_ : Nat) (k : Nat), (k ≤ 5) → (∀ i, i < k → σ (14 + 4 * i) = σ2 (14 + 4 * i) ∧ σ (15 + 4 * i) = σ2 (15 + 4 * i)) → 5 - k < n_ → Vm vp l ve vs vm va vb vt vc g 0 3 N (some (.int (bI (stdB σ σ2 5 = true)))) (ovr f o (shL g o σ)) (ovr f o (shL g o σ)) 2 [some (.ref o), some (.ref o2), some (.int (nI k))] [] := by
    intro n_
    induction n_ with
    | zero => intro k hk hr hm_; exact absurd hm_ (Nat.not_lt_zero _)
    | succ n_ ih2 =>
      intro k hk hr hm2
      refine v_iload_n X dX5_standAs_2 (i := 2) rfl rfl ?_
      refine v_iconst X dX5_standAs_3 (v := (5 : Int32)) (by decide) ?_
      refine v_icmp_ge X dX5_standAs_4 (tgt := 45) (by decide) (fun c4 => ?_) (fun c4 => ?_)
      · skip
        have hk5 : k = 5 := Nat.le_antisymm hk (le_of_nI (a := 5) (by omega) (by omega) c4)
        refine v_iconst X dX5_standAs_45 (v := (1 : Int32)) (by decide) ?_
        exact v_zret X rfl dX5_standAs_46 (rfl) (congrArg (fun z => some (Value.int z)) (bI_t (stdB_iff.mpr (hk5 ▸ hr))).symm) (rfl)
      · skip
        have hk5 : k < 5 := lt_of_nI (b := 5) (by omega) (by omega) c4
        refine v_aload_n X dX5_standAs_7 (i := 0) rfl rfl ?_
        refine v_getB X hB cf5 2 (Nat.le_of_ble_eq_true rfl) m_fl_X5_18 dX5_standAs_8 0 (Nat.le_of_ble_eq_true rfl) rfl rfl ?_
        refine v_iload_n X dX5_standAs_11 (i := 2) rfl rfl ?_
        refine v_iald_vw (b := 14) (s' := 4) X hB dX5_standAs_12 3 (Nat.le_of_ble_eq_true rfl) rfl k rfl (by omega) (Nat.le_of_ble_eq_true rfl) ?_
        refine v_aload_n X dX5_standAs_13 (i := 1) rfl rfl ?_
        refine v_getO X hO rfl cf5 2 (Nat.le_of_ble_eq_true rfl) m_fl_X5_18 dX5_standAs_14 0 rfl rfl ?_
        refine v_iload_n X dX5_standAs_17 (i := 2) rfl rfl ?_
        refine v_ialdO (b := 14) (s' := 4) X hO rfl dX5_standAs_18 3 rfl k rfl (by omega) (Nat.le_of_ble_eq_true rfl) ?_
        refine v_icmp_ne X dX5_standAs_19 (tgt := 37) (by decide) (fun c19 => ?_) (fun c19 => ?_)
        · skip
          refine v_iconst X dX5_standAs_37 (v := (0 : Int32)) (by decide) ?_
          exact v_zret X rfl dX5_standAs_38 (rfl) (congrArg (fun z => some (Value.int z)) (bI_f (fun q => by first | exact c19 (stdB_iff.mp q k hk5).1 | exact c34 (stdB_iff.mp q k hk5).2)).symm) (rfl)
        · skip
          refine v_aload_n X dX5_standAs_22 (i := 0) rfl rfl ?_
          refine v_getB X hB cf5 3 (Nat.le_of_ble_eq_true rfl) m_fl_X5_21 dX5_standAs_23 0 (Nat.le_of_ble_eq_true rfl) rfl rfl ?_
          refine v_iload_n X dX5_standAs_26 (i := 2) rfl rfl ?_
          refine v_iald_vw (b := 15) (s' := 4) X hB dX5_standAs_27 4 (Nat.le_of_ble_eq_true rfl) rfl k rfl (by omega) (Nat.le_of_ble_eq_true rfl) ?_
          refine v_aload_n X dX5_standAs_28 (i := 1) rfl rfl ?_
          refine v_getO X hO rfl cf5 3 (Nat.le_of_ble_eq_true rfl) m_fl_X5_21 dX5_standAs_29 0 rfl rfl ?_
          refine v_iload_n X dX5_standAs_32 (i := 2) rfl rfl ?_
          refine v_ialdO (b := 15) (s' := 4) X hO rfl dX5_standAs_33 4 rfl k rfl (by omega) (Nat.le_of_ble_eq_true rfl) ?_
          refine v_icmp_eq X dX5_standAs_34 (tgt := 39) (by decide) (fun c34 => ?_) (fun c34 => ?_)
          · skip
            refine v_iinc X dX5_standAs_39 (v := nI (k + 1)) rfl (ix_inc rfl) (Nat.le_of_ble_eq_true rfl) rfl ?_
            refine v_goto X dX5_standAs_42 (tgt := 2) (by decide) ?_
            exact ih2 (k + 1) (by omega) (fun i hi => by rcases Nat.lt_succ_iff_lt_or_eq.mp hi with h | h; exact hr i h; subst h; exact ⟨c19, c34⟩) (by omega)
          · skip
            refine v_iconst X dX5_standAs_37 (v := (0 : Int32)) (by decide) ?_
            exact v_zret X rfl dX5_standAs_38 (rfl) (congrArg (fun z => some (Value.int z)) (bI_f (fun q => by first | exact c19 (stdB_iff.mp q k hk5).1 | exact c34 (stdB_iff.mp q k hk5).2)).symm) (rfl)
  exact LP2 _ 0 (Nat.zero_le _) (fun i hi => absurd hi (Nat.not_lt_zero i)) (Nat.lt_succ_self _)
set_option maxRecDepth 100000 in
set_option maxHeartbeats 4000000 in
theorem c_X5_copyFrom (l : Launch) (g : Ge) (N o o2 : Nat) (σ σ2 : Nat → Int32) : Cb2 l g yX5_copyFrom (.code yX5_copyFrom cX5_copyFrom 2 none) 1 [.ref o, .ref o2] N o (shL g o σ) o2 (shL g o2 σ2) none (shL g o σ2) := by
  intro f hB0 hO0
  have hB : BB g N o 5 := hB0
  have hO : OB g N f o 5 o2 5 (shL g o2 σ2) := hO0
  refine ct_of (own := RX5) [some (.ref o), some (.ref o2)] (by decide +kernel) rfl rfl (Nat.le_of_ble_eq_true rfl) ?_
  intro vp ve vs vm va vb vt vc hnm X
  refine v_aload_n X dX5_copyFrom_0 (i := 1) rfl rfl ?_
  refine v_getO X hO rfl cf5 0 (Nat.le_of_ble_eq_true rfl) m_fl_X5_9 dX5_copyFrom_1 0 rfl rfl ?_
  refine v_iconst X dX5_copyFrom_4 (v := (0 : Int32)) (by decide) ?_
  refine v_aload_n X dX5_copyFrom_5 (i := 0) rfl rfl ?_
  refine v_getB X hB cf5 0 (Nat.le_of_ble_eq_true rfl) m_fl_X5_9 dX5_copyFrom_6 0 (Nat.le_of_ble_eq_true rfl) rfl rfl ?_
  refine v_iconst X dX5_copyFrom_9 (v := (0 : Int32)) (by decide) ?_
  refine v_iconst X dX5_copyFrom_10 (v := (5 : Int32)) (by decide) ?_
  refine v_copyO (n := 5) X hO rfl hB m_ml_X5_24 rfl rfl rfl (Nat.le_of_ble_eq_true rfl) 1 rfl 1 (Nat.le_of_ble_eq_true rfl) rfl (L' := _) (rfl) (Nat.le_of_ble_eq_true rfl) ⟨Nat.le_of_ble_eq_true rfl, Nat.le_of_ble_eq_true rfl⟩ dX5_copyFrom_11 ?_
  refine v_aload_n X dX5_copyFrom_14 (i := 1) rfl rfl ?_
  refine v_getO X hO rfl cf5 1 (Nat.le_of_ble_eq_true rfl) m_fl_X5_15 dX5_copyFrom_15 0 rfl rfl ?_
  refine v_iconst X dX5_copyFrom_18 (v := (0 : Int32)) (by decide) ?_
  refine v_aload_n X dX5_copyFrom_19 (i := 0) rfl rfl ?_
  refine v_getB X hB cf5 1 (Nat.le_of_ble_eq_true rfl) m_fl_X5_15 dX5_copyFrom_20 0 (Nat.le_of_ble_eq_true rfl) rfl rfl ?_
  refine v_iconst X dX5_copyFrom_23 (v := (0 : Int32)) (by decide) ?_
  refine v_iconst X dX5_copyFrom_24 (v := (5 : Int32)) (by decide) ?_
  refine v_copyO (n := 5) X hO rfl hB m_ml_X5_24 rfl rfl rfl (Nat.le_of_ble_eq_true rfl) 2 rfl 2 (Nat.le_of_ble_eq_true rfl) rfl (L' := _) (rfl) (Nat.le_of_ble_eq_true rfl) ⟨Nat.le_of_ble_eq_true rfl, Nat.le_of_ble_eq_true rfl⟩ dX5_copyFrom_25 ?_
  refine v_aload_n X dX5_copyFrom_28 (i := 1) rfl rfl ?_
  refine v_getO X hO rfl cf5 2 (Nat.le_of_ble_eq_true rfl) m_fl_X5_18 dX5_copyFrom_29 0 rfl rfl ?_
  refine v_iconst X dX5_copyFrom_32 (v := (0 : Int32)) (by decide) ?_
  refine v_aload_n X dX5_copyFrom_33 (i := 0) rfl rfl ?_
  refine v_getB X hB cf5 2 (Nat.le_of_ble_eq_true rfl) m_fl_X5_18 dX5_copyFrom_34 0 (Nat.le_of_ble_eq_true rfl) rfl rfl ?_
  refine v_iconst X dX5_copyFrom_37 (v := (0 : Int32)) (by decide) ?_
  refine v_iconst X dX5_copyFrom_38 (v := (5 : Int32)) (by decide) ?_
  refine v_copyO (n := 5) X hO rfl hB m_ml_X5_24 rfl rfl rfl (Nat.le_of_ble_eq_true rfl) 3 rfl 3 (Nat.le_of_ble_eq_true rfl) rfl (L' := _) (rfl) (Nat.le_of_ble_eq_true rfl) ⟨Nat.le_of_ble_eq_true rfl, Nat.le_of_ble_eq_true rfl⟩ dX5_copyFrom_39 ?_
  refine v_aload_n X dX5_copyFrom_42 (i := 1) rfl rfl ?_
  refine v_getO X hO rfl cf5 3 (Nat.le_of_ble_eq_true rfl) m_fl_X5_21 dX5_copyFrom_43 0 rfl rfl ?_
  refine v_iconst X dX5_copyFrom_46 (v := (0 : Int32)) (by decide) ?_
  refine v_aload_n X dX5_copyFrom_47 (i := 0) rfl rfl ?_
  refine v_getB X hB cf5 3 (Nat.le_of_ble_eq_true rfl) m_fl_X5_21 dX5_copyFrom_48 0 (Nat.le_of_ble_eq_true rfl) rfl rfl ?_
  refine v_iconst X dX5_copyFrom_51 (v := (0 : Int32)) (by decide) ?_
  refine v_iconst X dX5_copyFrom_52 (v := (5 : Int32)) (by decide) ?_
  refine v_copyO (n := 5) X hO rfl hB m_ml_X5_24 rfl rfl rfl (Nat.le_of_ble_eq_true rfl) 4 rfl 4 (Nat.le_of_ble_eq_true rfl) rfl (L' := _) (rfl) (Nat.le_of_ble_eq_true rfl) ⟨Nat.le_of_ble_eq_true rfl, Nat.le_of_ble_eq_true rfl⟩ dX5_copyFrom_53 ?_
  exact v_vret X rfl dX5_copyFrom_56 (rfl) (by simp only [shL, List.set_cons_succ, List.set_cons_zero, cpy_vw])
end
section
/-! the threads and the chain -/
def fbF (σ : Nat → Int32) : Nat → Nat → Int32
  | 0, _ => -6
  | n + 1, k => if σ (33 + 2 * k) = 0 then nI k else fbF σ n (k + 1)
theorem fbF_hit {σ : Nat → Int32} {k : Nat} (hk : k < 12) (h1 : σ (33 + 2 * k) = 0) : fbF σ (12 - k) k = nI k := by
  obtain ⟨n, hn⟩ : ∃ n, 12 - k = n + 1 := ⟨12 - k - 1, by omega⟩
  rw [hn, fbF, if_pos h1]
theorem fbF_miss {σ : Nat → Int32} {k : Nat} (hk : k < 12) (h : ¬ σ (33 + 2 * k) = 0) : fbF σ (12 - k) k = fbF σ (12 - (k + 1)) (k + 1) := by
  obtain ⟨n, hn⟩ : ∃ n, 12 - k = n + 1 := ⟨12 - k - 1, by omega⟩
  rw [hn, fbF, if_neg h]
  congr 1; omega
def thS (σ : Nat → Int32) (fr : Int32) : Nat → Int32
  | 0 => 0
  | k + 1 => if (fr >>> (σ (32 + 2 * k) &&& 31)) &&& 1 = 1 then thS σ fr k ||| ((1 : Int32) <<< (nI k &&& 31)) else thS σ fr k
def wrK (σ : Nat → Int32) (mv : Int32) (k : Nat) : Nat → Int32 := fun i => if (33 ≤ i ∧ i < 32 + 2 * k ∧ i % 2 = 1) ∧ (mv >>> (σ (i - 1) &&& 31)) &&& 1 = 1 then σ i - 1 else σ i
theorem wrK_0 {σ : Nat → Int32} {mv : Int32} : wrK σ mv 0 = σ := by
  funext i
  have : ¬ ((33 ≤ i ∧ i < 32 + 2 * 0 ∧ i % 2 = 1) ∧ (mv >>> (σ (i - 1) &&& 31)) &&& 1 = 1) := fun h => by omega
  rw [wrK, if_neg this]
theorem wrK_ev {σ : Nat → Int32} {mv : Int32} {k j : Nat} : wrK σ mv k (32 + 2 * j) = σ (32 + 2 * j) := by
  have : ¬ ((33 ≤ 32 + 2 * j ∧ 32 + 2 * j < 32 + 2 * k ∧ (32 + 2 * j) % 2 = 1) ∧ (mv >>> (σ (32 + 2 * j - 1) &&& 31)) &&& 1 = 1) := fun h => by omega
  rw [wrK, if_neg this]
theorem wrK_od {σ : Nat → Int32} {mv : Int32} {k : Nat} : wrK σ mv k (33 + 2 * k) = σ (33 + 2 * k) := by
  have : ¬ ((33 ≤ 33 + 2 * k ∧ 33 + 2 * k < 32 + 2 * k ∧ (33 + 2 * k) % 2 = 1) ∧ (mv >>> (σ (33 + 2 * k - 1) &&& 31)) &&& 1 = 1) := fun h => by omega
  rw [wrK, if_neg this]
theorem wrK_hit {σ : Nat → Int32} {mv : Int32} {k : Nat} (h : (mv >>> (wrK σ mv k (32 + 2 * k) &&& 31)) &&& 1 = 1) : upd (wrK σ mv k) (33 + 2 * k) (wrK σ mv k (33 + 2 * k) - 1) = wrK σ mv (k + 1) := by
  rw [wrK_ev] at h
  funext i
  by_cases e : i = 33 + 2 * k
  · subst e
    rw [pk_us, wrK_od, wrK, if_pos ⟨⟨by omega, by omega, by omega⟩, by rw [show 33 + 2 * k - 1 = 32 + 2 * k by omega]; exact h⟩]
  · rw [pk_un e, wrK, wrK]
    have e2 : (33 ≤ i ∧ i < 32 + 2 * k ∧ i % 2 = 1) ↔ (33 ≤ i ∧ i < 32 + 2 * (k + 1) ∧ i % 2 = 1) := by omega
    simp only [e2]
theorem wrK_miss {σ : Nat → Int32} {mv : Int32} {k : Nat} (h : ¬ (mv >>> (wrK σ mv k (32 + 2 * k) &&& 31)) &&& 1 = 1) : wrK σ mv k = wrK σ mv (k + 1) := by
  rw [wrK_ev] at h
  funext i
  by_cases e : i = 33 + 2 * k
  · subst e
    rw [wrK_od, wrK, if_neg]
    rw [show 33 + 2 * k - 1 = 32 + 2 * k by omega]
    exact fun q => h q.2
  · rw [wrK, wrK]
    have e2 : (33 ≤ i ∧ i < 32 + 2 * k ∧ i % 2 = 1) ↔ (33 ≤ i ∧ i < 32 + 2 * (k + 1) ∧ i % 2 = 1) := by omega
    simp only [e2]
theorem wrK_out {σ : Nat → Int32} {mv : Int32} {i : Nat} (h : ¬ (32 ≤ i ∧ i < 56)) : wrK σ mv 12 i = σ i := by
  rw [wrK, if_neg]
  intro q; omega
def shK (σ : Nat → Int32) (k j : Nat) : Nat → Int32 := fun i => if 56 + 3 * k ≤ i ∧ i < 56 + 3 * j then σ (i + 3) else σ i
theorem shK_0 {σ : Nat → Int32} {k : Nat} : shK σ k k = σ := by
  funext i
  rw [shK, if_neg (by omega)]
theorem shK_lo {σ : Nat → Int32} {k j i : Nat} (h : i < 56) : shK σ k j i = σ i := by rw [shK, if_neg (by omega)]
theorem shK_hi {σ : Nat → Int32} {k j i : Nat} (h : 56 + 3 * j ≤ i) : shK σ k j i = σ i := by rw [shK, if_neg (by omega)]
def rmP (k P C : Nat) : Nat := if C - 1 ≤ (if k < P then P - 1 else P) then 0 else (if k < P then P - 1 else P)
def rmS (σ : Nat → Int32) (k P C : Nat) : Nat → Int32 := upd (upd (shK σ k (C - 1)) 0 (nI (C - 1))) 1 (nI (rmP k P C))
def apS (σ : Nat → Int32) (C : Nat) (fr a b : Int32) : Nat → Int32 := upd (upd (upd (upd σ (56 + 3 * C) fr) (57 + 3 * C) a) (58 + 3 * C) b) 0 (nI (C + 1))
theorem shK_st {σ : Nat → Int32} {k j : Nat} (h : k ≤ j) : upd (upd (upd (shK σ k j) (56 + 3 * j) (σ (56 + 3 * (j + 1)))) (57 + 3 * j) (σ (57 + 3 * (j + 1)))) (58 + 3 * j) (σ (58 + 3 * (j + 1))) = shK σ k (j + 1) := by
  funext i
  by_cases e1 : i = 58 + 3 * j
  · subst e1; rw [pk_us, shK, if_pos (by omega)]; congr 1
  · rw [pk_un e1]
    by_cases e2 : i = 57 + 3 * j
    · subst e2; rw [pk_us, shK, if_pos (by omega)]; congr 1
    · rw [pk_un e2]
      by_cases e3 : i = 56 + 3 * j
      · subst e3; rw [pk_us, shK, if_pos (by omega)]; congr 1
      · rw [pk_un e3, shK, shK]
        have : (56 + 3 * k ≤ i ∧ i < 56 + 3 * j) ↔ (56 + 3 * k ≤ i ∧ i < 56 + 3 * (j + 1)) := by omega
        simp only [this]
set_option maxRecDepth 100000 in
set_option maxHeartbeats 4000000 in
theorem c_X6_firstBroken (l : Launch) (g : Ge) (N o : Nat) (σ : Nat → Int32) : Cb l g yX6_firstBroken (.code yX6_firstBroken cX6_firstBroken 2 (some .int)) 0 [.ref o] N o (thL g o σ) (some (.int (fbF σ 12 0))) (thL g o σ) := by
  intro f hB0
  have hB : BB g N o 3 := hB0
  refine ct_of (own := RX6) [some (.ref o), none] (by decide +kernel) rfl rfl (Nat.le_of_ble_eq_true rfl) ?_
  intro vp ve vs vm va vb vt vc hnm X
  refine v_iconst X dX6_firstBroken_0 (v := (0 : Int32)) (by decide) ?_
  refine v_istore_n X dX6_firstBroken_1 (i := 1) rfl (Nat.le_of_ble_eq_true rfl) rfl ?_
  have LP2 : ∀ (n_ : Nat) (k : Nat), (k ≤ 12) → (fbF σ 12 0 = fbF σ (12 - k) k) → 12 - k < n_ → Vm vp l ve vs vm va vb vt vc g 0 2 N (some (.int (fbF σ 12 0))) (ovr f o (thL g o σ)) (ovr f o (thL g o σ)) 2 [some (.ref o), some (.int (nI k))] [] := by
    intro n_
    induction n_ with
    | zero => intro k hk hr hm_; exact absurd hm_ (Nat.not_lt_zero _)
    | succ n_ ih2 =>
      intro k hk hr hm2
      refine v_iload_n X dX6_firstBroken_2 (i := 1) rfl rfl ?_
      refine v_bipush X dX6_firstBroken_3 (v := (12 : Int32)) (by decide) ?_
      refine v_icmp_ge X dX6_firstBroken_5 (tgt := 25) (by decide) (fun c5 => ?_) (fun c5 => ?_)
      · skip
        have hk5 : k = 12 := Nat.le_antisymm hk (le_of_nI (a := 12) (by omega) (by omega) c5)
        refine v_bipush X dX6_firstBroken_25 (v := (-6 : Int32)) (by decide) ?_
        exact v_iret X rfl dX6_firstBroken_27 (by rw [hr, hk5]; rfl) (rfl)
      · skip
        have hk5 : k < 12 := lt_of_nI (b := 12) (by omega) (by omega) c5
        refine v_aload_n X dX6_firstBroken_8 (i := 0) rfl rfl ?_
        refine v_getB X hB cf6 1 (Nat.le_of_ble_eq_true rfl) m_fl_X6_15 dX6_firstBroken_9 0 (Nat.le_of_ble_eq_true rfl) rfl rfl ?_
        refine v_iload_n X dX6_firstBroken_12 (i := 1) rfl rfl ?_
        refine v_iald_vw (b := 33) (s' := 2) X hB dX6_firstBroken_13 2 (Nat.le_of_ble_eq_true rfl) rfl k rfl (by omega) (Nat.le_of_ble_eq_true rfl) ?_
        refine v_if_ne X dX6_firstBroken_14 (tgt := 19) (by decide) (fun c14 => ?_) (fun c14 => ?_)
        · skip
          refine v_iinc X dX6_firstBroken_19 (v := nI (k + 1)) rfl (ix_inc rfl) (Nat.le_of_ble_eq_true rfl) rfl ?_
          refine v_goto X dX6_firstBroken_22 (tgt := 2) (by decide) ?_
          exact ih2 (k + 1) (by omega) (hr.trans (fbF_miss hk5 c14)) (by omega)
        · skip
          refine v_iload_n X dX6_firstBroken_17 (i := 1) rfl rfl ?_
          exact v_iret X rfl dX6_firstBroken_18 (congrArg (fun z => some (Value.int z)) (hr.trans (fbF_hit hk5 c14)).symm) (rfl)
  exact LP2 _ 0 (Nat.zero_le _) rfl (Nat.lt_succ_self _)
set_option maxRecDepth 100000 in
set_option maxHeartbeats 4000000 in
theorem c_X6_inFrames (l : Launch) (g : Ge) (N o : Nat) (σ : Nat → Int32) (fr : Int32) : Cb l g yX6_inFrames (.code yX6_inFrames cX6_inFrames 4 (some .int)) 1 [.ref o, .int fr] N o (thL g o σ) (some (.int (thS σ fr 12))) (thL g o σ) := by
  intro f hB0
  have hB : BB g N o 3 := hB0
  refine ct_of (own := RX6) [some (.ref o), some (.int fr), none, none] (by decide +kernel) rfl rfl (Nat.le_of_ble_eq_true rfl) ?_
  intro vp ve vs vm va vb vt vc hnm X
  refine v_iconst X dX6_inFrames_0 (v := (0 : Int32)) (by decide) ?_
  refine v_istore_n X dX6_inFrames_1 (i := 2) rfl (Nat.le_of_ble_eq_true rfl) rfl ?_
  refine v_iconst X dX6_inFrames_2 (v := (0 : Int32)) (by decide) ?_
  refine v_istore_n X dX6_inFrames_3 (i := 3) rfl (Nat.le_of_ble_eq_true rfl) rfl ?_
  have LP4 : ∀ (n_ : Nat) (k : Nat), (k ≤ 12) → 12 - k < n_ → Vm vp l ve vs vm va vb vt vc g 1 4 N (some (.int (thS σ fr 12))) (ovr f o (thL g o σ)) (ovr f o (thL g o σ)) 4 [some (.ref o), some (.int fr), some (.int (thS σ fr k)), some (.int (nI k))] [] := by
    intro n_
    induction n_ with
    | zero => intro k hk hm_; exact absurd hm_ (Nat.not_lt_zero _)
    | succ n_ ih4 =>
      intro k hk hm4
      refine v_iload_n X dX6_inFrames_4 (i := 3) rfl rfl ?_
      refine v_bipush X dX6_inFrames_5 (v := (12 : Int32)) (by decide) ?_
      refine v_icmp_ge X dX6_inFrames_7 (tgt := 35) (by decide) (fun c7 => ?_) (fun c7 => ?_)
      · skip
        have hk5 : k = 12 := Nat.le_antisymm hk (le_of_nI (a := 12) (by omega) (by omega) c7)
        refine v_iload_n X dX6_inFrames_35 (i := 2) rfl rfl ?_
        exact v_iret X rfl dX6_inFrames_36 (by rw [hk5]) (rfl)
      · skip
        have hk5 : k < 12 := lt_of_nI (b := 12) (by omega) (by omega) c7
        refine v_iload_n X dX6_inFrames_10 (i := 1) rfl rfl ?_
        refine v_aload_n X dX6_inFrames_11 (i := 0) rfl rfl ?_
        refine v_getB X hB cf6 0 (Nat.le_of_ble_eq_true rfl) m_fl_X6_9 dX6_inFrames_12 0 (Nat.le_of_ble_eq_true rfl) rfl rfl ?_
        refine v_iload_n X dX6_inFrames_15 (i := 3) rfl rfl ?_
        refine v_iald_vw (b := 32) (s' := 2) X hB dX6_inFrames_16 1 (Nat.le_of_ble_eq_true rfl) rfl k rfl (by omega) (Nat.le_of_ble_eq_true rfl) ?_
        refine v_csN X rfl yv_X7_contains m_mn_X6_24 (c_X7_contains l g fr (σ (32 + 2 * k)) ) rfl rfl (Nat.le_of_ble_eq_true rfl) ⟨Nat.le_of_ble_eq_true rfl, Nat.le_of_ble_eq_true rfl⟩ ⟨Nat.le_of_ble_eq_true rfl, Nat.le_of_ble_eq_true rfl⟩ dX6_inFrames_17 rfl ?_
        refine v_if_eqB X dX6_inFrames_20 (tgt := 29) (by decide) (fun c20 => ?_) (fun c20 => ?_)
        · skip
          refine v_iinc X dX6_inFrames_29 (v := nI (k + 1)) rfl (ix_inc rfl) (Nat.le_of_ble_eq_true rfl) rfl ?_
          refine v_goto X dX6_inFrames_32 (tgt := 4) (by decide) ?_
          exact V.cast (ih4 (k + 1) (by omega) (by omega)) (by rw [thS, if_neg c20]; rfl) (rfl) (rfl)
        · skip
          refine v_iload_n X dX6_inFrames_23 (i := 2) rfl rfl ?_
          refine v_iconst X dX6_inFrames_24 (v := (1 : Int32)) (by decide) ?_
          refine v_iload_n X dX6_inFrames_25 (i := 3) rfl rfl ?_
          refine v_ishl X dX6_inFrames_26 ?_
          refine v_ior X dX6_inFrames_27 ?_
          refine v_istore_n X dX6_inFrames_28 (i := 2) rfl (Nat.le_of_ble_eq_true rfl) rfl ?_
          refine v_iinc X dX6_inFrames_29 (v := nI (k + 1)) rfl (ix_inc rfl) (Nat.le_of_ble_eq_true rfl) rfl ?_
          refine v_goto X dX6_inFrames_32 (tgt := 4) (by decide) ?_
          exact V.cast (ih4 (k + 1) (by omega) (by omega)) (by rw [thS, if_pos c20]; rfl) (rfl) (rfl)
  exact LP4 _ 0 (Nat.zero_le _) (Nat.lt_succ_self _)
set_option maxRecDepth 100000 in
set_option maxHeartbeats 4000000 in
theorem c_X6_wearOut (l : Launch) (g : Ge) (N o : Nat) (σ : Nat → Int32) (mv : Int32) : Cb l g yX6_wearOut (.code yX6_wearOut cX6_wearOut 3 none) 1 [.ref o, .int mv] N o (thL g o σ) none (thL g o (wrK σ mv 12)) := by
  intro f hB0
  have hB : BB g N o 3 := hB0
  refine ct_of (own := RX6) [some (.ref o), some (.int mv), none] (by decide +kernel) rfl rfl (Nat.le_of_ble_eq_true rfl) ?_
  intro vp ve vs vm va vb vt vc hnm X
  refine v_iconst X dX6_wearOut_0 (v := (0 : Int32)) (by decide) ?_
  refine v_istore_n X dX6_wearOut_1 (i := 2) rfl (Nat.le_of_ble_eq_true rfl) rfl ?_
  have LP2 : ∀ (n_ : Nat) (k : Nat), (k ≤ 12) → 12 - k < n_ → Vm vp l ve vs vm va vb vt vc g 1 3 N none (ovr f o (thL g o (wrK σ mv 12))) (ovr f o (thL g o (wrK σ mv k))) 2 [some (.ref o), some (.int mv), some (.int (nI k))] [] := by
    intro n_
    induction n_ with
    | zero => intro k hk hm_; exact absurd hm_ (Nat.not_lt_zero _)
    | succ n_ ih2 =>
      intro k hk hm2
      refine v_iload_n X dX6_wearOut_2 (i := 2) rfl rfl ?_
      refine v_bipush X dX6_wearOut_3 (v := (12 : Int32)) (by decide) ?_
      refine v_icmp_ge X dX6_wearOut_5 (tgt := 37) (by decide) (fun c5 => ?_) (fun c5 => ?_)
      · skip
        have hk5 : k = 12 := Nat.le_antisymm hk (le_of_nI (a := 12) (by omega) (by omega) c5)
        exact v_vret X rfl dX6_wearOut_37 (rfl) (by rw [hk5])
      · skip
        have hk5 : k < 12 := lt_of_nI (b := 12) (by omega) (by omega) c5
        refine v_iload_n X dX6_wearOut_8 (i := 1) rfl rfl ?_
        refine v_aload_n X dX6_wearOut_9 (i := 0) rfl rfl ?_
        refine v_getB X hB cf6 0 (Nat.le_of_ble_eq_true rfl) m_fl_X6_9 dX6_wearOut_10 0 (Nat.le_of_ble_eq_true rfl) rfl rfl ?_
        refine v_iload_n X dX6_wearOut_13 (i := 2) rfl rfl ?_
        refine v_iald_vw (b := 32) (s' := 2) X hB dX6_wearOut_14 1 (Nat.le_of_ble_eq_true rfl) rfl k rfl (by omega) (Nat.le_of_ble_eq_true rfl) ?_
        refine v_csN X rfl yv_X7_contains m_mn_X6_24 (c_X7_contains l g mv ((wrK σ mv k) (32 + 2 * k)) ) rfl rfl (Nat.le_of_ble_eq_true rfl) ⟨Nat.le_of_ble_eq_true rfl, Nat.le_of_ble_eq_true rfl⟩ ⟨Nat.le_of_ble_eq_true rfl, Nat.le_of_ble_eq_true rfl⟩ dX6_wearOut_15 rfl ?_
        refine v_if_eqB X dX6_wearOut_18 (tgt := 31) (by decide) (fun c18 => ?_) (fun c18 => ?_)
        · skip
          refine v_iinc X dX6_wearOut_31 (v := nI (k + 1)) rfl (ix_inc rfl) (Nat.le_of_ble_eq_true rfl) rfl ?_
          refine v_goto X dX6_wearOut_34 (tgt := 2) (by decide) ?_
          exact V.cast (ih2 (k + 1) (by omega) (by omega)) (rfl) (rfl) (by rw [wrK_miss c18])
        · skip
          refine v_aload_n X dX6_wearOut_21 (i := 0) rfl rfl ?_
          refine v_getB X hB cf6 1 (Nat.le_of_ble_eq_true rfl) m_fl_X6_15 dX6_wearOut_22 0 (Nat.le_of_ble_eq_true rfl) rfl rfl ?_
          refine v_iload_n X dX6_wearOut_25 (i := 2) rfl rfl ?_
          refine v_dup2 X dX6_wearOut_26 rfl rfl ?_
          refine v_iald_vw (b := 33) (s' := 2) X hB dX6_wearOut_27 2 (Nat.le_of_ble_eq_true rfl) rfl k rfl (by omega) (Nat.le_of_ble_eq_true rfl) ?_
          refine v_iconst X dX6_wearOut_28 (v := (1 : Int32)) (by decide) ?_
          refine v_isub X dX6_wearOut_29 ?_
          refine v_iastB (n := 12) X hB dX6_wearOut_30 2 (Nat.le_of_ble_eq_true rfl) rfl k rfl (by omega) (Nat.le_of_ble_eq_true rfl) (L' := (thL g o (upd (wrK σ mv k) (33 + 2 * k) (((wrK σ mv k) (33 + 2 * k)) - (1 : Int32))))) (w_th_2 (by omega)) ?_
          refine v_iinc X dX6_wearOut_31 (v := nI (k + 1)) rfl (ix_inc rfl) (Nat.le_of_ble_eq_true rfl) rfl ?_
          refine v_goto X dX6_wearOut_34 (tgt := 2) (by decide) ?_
          exact V.cast (ih2 (k + 1) (by omega) (by omega)) (rfl) (rfl) (by rw [wrK_hit c18])
  exact V.cast (LP2 _ 0 (Nat.zero_le _) (Nat.lt_succ_self _)) (rfl) (rfl) (by rw [wrK_0])
set_option maxRecDepth 100000 in
set_option maxHeartbeats 4000000 in
theorem c_X6_copyFrom (l : Launch) (g : Ge) (N o o2 : Nat) (σ σ2 : Nat → Int32) : Cb2 l g yX6_copyFrom (.code yX6_copyFrom cX6_copyFrom 2 none) 1 [.ref o, .ref o2] N o (thL g o σ) o2 (thL g o2 σ2) none (thL g o σ2) := by
  intro f hB0 hO0
  have hB : BB g N o 3 := hB0
  have hO : OB g N f o 3 o2 3 (thL g o2 σ2) := hO0
  refine ct_of (own := RX6) [some (.ref o), some (.ref o2)] (by decide +kernel) rfl rfl (Nat.le_of_ble_eq_true rfl) ?_
  intro vp ve vs vm va vb vt vc hnm X
  refine v_aload_n X dX6_copyFrom_0 (i := 1) rfl rfl ?_
  refine v_getO X hO rfl cf6 0 (Nat.le_of_ble_eq_true rfl) m_fl_X6_9 dX6_copyFrom_1 0 rfl rfl ?_
  refine v_iconst X dX6_copyFrom_4 (v := (0 : Int32)) (by decide) ?_
  refine v_aload_n X dX6_copyFrom_5 (i := 0) rfl rfl ?_
  refine v_getB X hB cf6 0 (Nat.le_of_ble_eq_true rfl) m_fl_X6_9 dX6_copyFrom_6 0 (Nat.le_of_ble_eq_true rfl) rfl rfl ?_
  refine v_iconst X dX6_copyFrom_9 (v := (0 : Int32)) (by decide) ?_
  refine v_bipush X dX6_copyFrom_10 (v := (12 : Int32)) (by decide) ?_
  refine v_copyO (n := 12) X hO rfl hB m_ml_X6_18 rfl rfl rfl (Nat.le_of_ble_eq_true rfl) 1 rfl 1 (Nat.le_of_ble_eq_true rfl) rfl (L' := _) (rfl) (Nat.le_of_ble_eq_true rfl) ⟨Nat.le_of_ble_eq_true rfl, Nat.le_of_ble_eq_true rfl⟩ dX6_copyFrom_12 ?_
  refine v_aload_n X dX6_copyFrom_15 (i := 1) rfl rfl ?_
  refine v_getO X hO rfl cf6 1 (Nat.le_of_ble_eq_true rfl) m_fl_X6_15 dX6_copyFrom_16 0 rfl rfl ?_
  refine v_iconst X dX6_copyFrom_19 (v := (0 : Int32)) (by decide) ?_
  refine v_aload_n X dX6_copyFrom_20 (i := 0) rfl rfl ?_
  refine v_getB X hB cf6 1 (Nat.le_of_ble_eq_true rfl) m_fl_X6_15 dX6_copyFrom_21 0 (Nat.le_of_ble_eq_true rfl) rfl rfl ?_
  refine v_iconst X dX6_copyFrom_24 (v := (0 : Int32)) (by decide) ?_
  refine v_bipush X dX6_copyFrom_25 (v := (12 : Int32)) (by decide) ?_
  refine v_copyO (n := 12) X hO rfl hB m_ml_X6_18 rfl rfl rfl (Nat.le_of_ble_eq_true rfl) 2 rfl 2 (Nat.le_of_ble_eq_true rfl) rfl (L' := _) (rfl) (Nat.le_of_ble_eq_true rfl) ⟨Nat.le_of_ble_eq_true rfl, Nat.le_of_ble_eq_true rfl⟩ dX6_copyFrom_27 ?_
  exact v_vret X rfl dX6_copyFrom_30 (rfl) (by simp only [thL, List.set_cons_succ, List.set_cons_zero, cpy_vw])
set_option maxRecDepth 100000 in
set_option maxHeartbeats 4000000 in
theorem c_X1_copyFrom (l : Launch) (g : Ge) (N o o2 : Nat) (σ σ2 : Nat → Int32) : Cb2 l g yX1_copyFrom (.code yX1_copyFrom cX1_copyFrom 2 none) 1 [.ref o, .ref o2] N o (chL g o σ) o2 (chL g o2 σ2) none (chL g o σ2) := by
  intro f hB0 hO0
  have hB : BB g N o 4 := hB0
  have hO : OB g N f o 4 o2 4 (chL g o2 σ2) := hO0
  refine ct_of (own := RX1) [some (.ref o), some (.ref o2)] (by decide +kernel) rfl rfl (Nat.le_of_ble_eq_true rfl) ?_
  intro vp ve vs vm va vb vt vc hnm X
  refine v_aload_n X dX1_copyFrom_0 (i := 1) rfl rfl ?_
  refine v_getO X hO rfl cf1 0 (Nat.le_of_ble_eq_true rfl) m_fl_X1_9 dX1_copyFrom_1 0 rfl rfl ?_
  refine v_iconst X dX1_copyFrom_4 (v := (0 : Int32)) (by decide) ?_
  refine v_aload_n X dX1_copyFrom_5 (i := 0) rfl rfl ?_
  refine v_getB X hB cf1 0 (Nat.le_of_ble_eq_true rfl) m_fl_X1_9 dX1_copyFrom_6 0 (Nat.le_of_ble_eq_true rfl) rfl rfl ?_
  refine v_iconst X dX1_copyFrom_9 (v := (0 : Int32)) (by decide) ?_
  refine v_bipush X dX1_copyFrom_10 (v := (16 : Int32)) (by decide) ?_
  refine v_copyO (n := 16) X hO rfl hB m_ml_X1_28 rfl rfl rfl (Nat.le_of_ble_eq_true rfl) 1 rfl 1 (Nat.le_of_ble_eq_true rfl) rfl (L' := _) (rfl) (Nat.le_of_ble_eq_true rfl) ⟨Nat.le_of_ble_eq_true rfl, Nat.le_of_ble_eq_true rfl⟩ dX1_copyFrom_12 ?_
  refine v_aload_n X dX1_copyFrom_15 (i := 1) rfl rfl ?_
  refine v_getO X hO rfl cf1 1 (Nat.le_of_ble_eq_true rfl) m_fl_X1_15 dX1_copyFrom_16 0 rfl rfl ?_
  refine v_iconst X dX1_copyFrom_19 (v := (0 : Int32)) (by decide) ?_
  refine v_aload_n X dX1_copyFrom_20 (i := 0) rfl rfl ?_
  refine v_getB X hB cf1 1 (Nat.le_of_ble_eq_true rfl) m_fl_X1_15 dX1_copyFrom_21 0 (Nat.le_of_ble_eq_true rfl) rfl rfl ?_
  refine v_iconst X dX1_copyFrom_24 (v := (0 : Int32)) (by decide) ?_
  refine v_bipush X dX1_copyFrom_25 (v := (16 : Int32)) (by decide) ?_
  refine v_copyO (n := 16) X hO rfl hB m_ml_X1_28 rfl rfl rfl (Nat.le_of_ble_eq_true rfl) 2 rfl 2 (Nat.le_of_ble_eq_true rfl) rfl (L' := _) (rfl) (Nat.le_of_ble_eq_true rfl) ⟨Nat.le_of_ble_eq_true rfl, Nat.le_of_ble_eq_true rfl⟩ dX1_copyFrom_27 ?_
  refine v_aload_n X dX1_copyFrom_30 (i := 1) rfl rfl ?_
  refine v_getO X hO rfl cf1 2 (Nat.le_of_ble_eq_true rfl) m_fl_X1_18 dX1_copyFrom_31 0 rfl rfl ?_
  refine v_iconst X dX1_copyFrom_34 (v := (0 : Int32)) (by decide) ?_
  refine v_aload_n X dX1_copyFrom_35 (i := 0) rfl rfl ?_
  refine v_getB X hB cf1 2 (Nat.le_of_ble_eq_true rfl) m_fl_X1_18 dX1_copyFrom_36 0 (Nat.le_of_ble_eq_true rfl) rfl rfl ?_
  refine v_iconst X dX1_copyFrom_39 (v := (0 : Int32)) (by decide) ?_
  refine v_bipush X dX1_copyFrom_40 (v := (16 : Int32)) (by decide) ?_
  refine v_copyO (n := 16) X hO rfl hB m_ml_X1_28 rfl rfl rfl (Nat.le_of_ble_eq_true rfl) 3 rfl 3 (Nat.le_of_ble_eq_true rfl) rfl (L' := _) (rfl) (Nat.le_of_ble_eq_true rfl) ⟨Nat.le_of_ble_eq_true rfl, Nat.le_of_ble_eq_true rfl⟩ dX1_copyFrom_42 ?_
  refine v_aload_n X dX1_copyFrom_45 (i := 0) rfl rfl ?_
  refine v_aload_n X dX1_copyFrom_46 (i := 1) rfl rfl ?_
  refine v_getO X hO rfl cf1 3 (Nat.le_of_ble_eq_true rfl) m_fl_X1_21 dX1_copyFrom_47 0 rfl rfl ?_
  refine v_putB X hB cf1 3 (Nat.le_of_ble_eq_true rfl) rfl m_fl_X1_21 dX1_copyFrom_50 0 (Nat.le_of_ble_eq_true rfl) rfl rfl rfl (Nat.le_of_ble_eq_true rfl) rfl ?_
  refine v_aload_n X dX1_copyFrom_53 (i := 0) rfl rfl ?_
  refine v_aload_n X dX1_copyFrom_54 (i := 1) rfl rfl ?_
  refine v_getO X hO rfl cf1 4 (Nat.le_of_ble_eq_true rfl) m_fl_X1_25 dX1_copyFrom_55 0 rfl rfl ?_
  refine v_putB X hB cf1 4 (Nat.le_of_ble_eq_true rfl) rfl m_fl_X1_25 dX1_copyFrom_58 0 (Nat.le_of_ble_eq_true rfl) rfl rfl rfl (Nat.le_of_ble_eq_true rfl) rfl ?_
  exact v_vret X rfl dX1_copyFrom_61 (rfl) (by simp only [chL, List.set_cons_succ, List.set_cons_zero, cpy_vw])
set_option maxRecDepth 100000 in
set_option maxHeartbeats 4000000 in
theorem c_X1_has (l : Launch) (g : Ge) (N o : Nat) (σ : Nat → Int32) (v : Int32) : Cb l g yX1_has (.code yX1_has cX1_has 2 (some .boolean)) 0 [.ref o, .int v] N o (chL g o σ) (some (.int (bI ((0 : Int32) ≤ v ∧ v < σ 0 ∧ v < 16)))) (chL g o σ) := by
  intro f hB0
  have hB : BB g N o 4 := hB0
  refine ct_of (own := RX1) [some (.ref o), some (.int v)] (by decide +kernel) rfl rfl (Nat.le_of_ble_eq_true rfl) ?_
  intro vp ve vs vm va vb vt vc hnm X
  refine v_iload_n X dX1_has_0 (i := 1) rfl rfl ?_
  refine v_if_lt X dX1_has_1 (tgt := 22) (by decide) (fun c1 => ?_) (fun c1 => ?_)
  · skip
    refine v_iconst X dX1_has_22 (v := (0 : Int32)) (by decide) ?_
    exact v_zret X rfl dX1_has_23 (rfl) (by simp [bI, c1, Int32.not_le.mpr c1]) (rfl)
  · skip
    refine v_iload_n X dX1_has_4 (i := 1) rfl rfl ?_
    refine v_aload_n X dX1_has_5 (i := 0) rfl rfl ?_
    refine v_getB X hB cf1 3 (Nat.le_of_ble_eq_true rfl) m_fl_X1_21 dX1_has_6 0 (Nat.le_of_ble_eq_true rfl) rfl rfl ?_
    refine v_icmp_ge X dX1_has_9 (tgt := 22) (by decide) (fun c9 => ?_) (fun c9 => ?_)
    · skip
      refine v_iconst X dX1_has_22 (v := (0 : Int32)) (by decide) ?_
      exact v_zret X rfl dX1_has_23 (rfl) (by simp [bI, c1, Int32.not_lt.mpr c1, c9, Int32.not_lt.mpr c9]) (rfl)
    · skip
      refine v_iload_n X dX1_has_12 (i := 1) rfl rfl ?_
      refine v_bipush X dX1_has_13 (v := (16 : Int32)) (by decide) ?_
      refine v_icmp_ge X dX1_has_15 (tgt := 22) (by decide) (fun c15 => ?_) (fun c15 => ?_)
      · skip
        refine v_iconst X dX1_has_22 (v := (0 : Int32)) (by decide) ?_
        exact v_zret X rfl dX1_has_23 (rfl) (by simp [bI, c1, Int32.not_lt.mpr c1, c9, Int32.not_le.mpr c9, c15, Int32.not_lt.mpr c15]) (rfl)
      · skip
        refine v_iconst X dX1_has_18 (v := (1 : Int32)) (by decide) ?_
        refine v_goto X dX1_has_19 (tgt := 23) (by decide) ?_
        exact v_zret X rfl dX1_has_23 (rfl) (by simp [bI, c1, Int32.not_lt.mpr c1, c9, Int32.not_le.mpr c9, c15, Int32.not_le.mpr c15]) (rfl)
theorem has_nI {σ : Nat → Int32} {p C : Nat} (hC : σ 0 = nI C) (hp : p < C) (hC16 : C ≤ 16) : (0 : Int32) ≤ nI p ∧ nI p < σ 0 ∧ nI p < 16 := ⟨(nI_leI (a := 0) (by omega) (by omega)).mpr (by omega), by rw [hC]; exact (nI_ltI (by omega) (by omega)).mpr hp, (nI_ltI (b := 16) (by omega) (by omega)).mpr (by omega)⟩
theorem of_has {σ : Nat → Int32} {v : Int32} {C : Nat} (hC : σ 0 = nI C) (hC16 : C ≤ 16) (h : (0 : Int32) ≤ v ∧ v < σ 0 ∧ v < 16) : ∃ p, p < C ∧ v = nI p := by
  obtain ⟨p, hp, rfl⟩ := nI_cases (n := 15) (by omega) h.1 (by
    have h3 := h.2.2
    rw [Int32.lt_iff_toInt_lt] at h3
    rw [Int32.le_iff_toInt_le, nI_toInt (by omega)]
    have : (16 : Int32).toInt = 16 := by decide
    omega)
  refine ⟨p, ?_, rfl⟩
  have h2 := h.2.1
  rw [hC] at h2
  exact (nI_ltI (by omega) (by omega)).mp h2
set_option maxRecDepth 100000 in
set_option maxHeartbeats 4000000 in
theorem c_X1_framesOf (l : Launch) (g : Ge) (N o : Nat) (σ : Nat → Int32) (p C : Nat) (hC : σ 0 = nI C) (hp : p < C) (hC16 : C ≤ 16) : Cb l g yX1_framesOf (.code yX1_framesOf cX1_framesOf 2 (some .int)) 1 [.ref o, .int (nI p)] N o (chL g o σ) (some (.int (σ (56 + 3 * p)))) (chL g o σ) := by
  intro f hB0
  have hB : BB g N o 4 := hB0
  refine ct_of (own := RX1) [some (.ref o), some (.int (nI p))] (by decide +kernel) rfl rfl (Nat.le_of_ble_eq_true rfl) ?_
  intro vp ve vs vm va vb vt vc hnm X
  refine v_aload_n X dX1_framesOf_0 (i := 0) rfl rfl ?_
  refine v_iload_n X dX1_framesOf_1 (i := 1) rfl rfl ?_
  refine v_cvB X rfl yv_X1_has m_ml_X1_34 0 0 (c_X1_has l g N o σ (nI p) ) hB (Nat.le_of_ble_eq_true rfl) rfl (Nat.le_of_ble_eq_true rfl) rfl (L' := (chL g o σ)) (rfl) rfl (Nat.le_of_ble_eq_true rfl) rfl rfl (Nat.le_of_ble_eq_true rfl) ⟨Nat.le_of_ble_eq_true rfl, Nat.le_of_ble_eq_true rfl⟩ ⟨Nat.le_of_ble_eq_true rfl, Nat.le_of_ble_eq_true rfl⟩ dX1_framesOf_2 rfl ?_
  refine v_if_eqB X dX1_framesOf_5 (tgt := 17) (by decide) (fun c5 => ?_) (fun c5 => ?_)
  · skip
    exact absurd (has_nI hC hp hC16) c5
  · skip
    refine v_aload_n X dX1_framesOf_8 (i := 0) rfl rfl ?_
    refine v_getB X hB cf1 0 (Nat.le_of_ble_eq_true rfl) m_fl_X1_9 dX1_framesOf_9 0 (Nat.le_of_ble_eq_true rfl) rfl rfl ?_
    refine v_iload_n X dX1_framesOf_12 (i := 1) rfl rfl ?_
    refine v_iald_vw (b := 56) (s' := 3) X hB dX1_framesOf_13 1 (Nat.le_of_ble_eq_true rfl) rfl p rfl (by omega) (Nat.le_of_ble_eq_true rfl) ?_
    refine v_goto X dX1_framesOf_14 (tgt := 18) (by decide) ?_
    exact v_iret X rfl dX1_framesOf_18 (rfl) (rfl)
set_option maxRecDepth 100000 in
set_option maxHeartbeats 4000000 in
theorem c_X1_boxOf (l : Launch) (g : Ge) (N o : Nat) (σ : Nat → Int32) (p C : Nat) (hC : σ 0 = nI C) (hp : p < C) (hC16 : C ≤ 16) (sd : Int32) : Cb l g yX1_boxOf (.code yX1_boxOf cX1_boxOf 3 (some .int)) 1 [.ref o, .int (nI p), .int sd] N o (chL g o σ) (some (.int (if sd = 0 then σ (57 + 3 * p) else σ (58 + 3 * p)))) (chL g o σ) := by
  intro f hB0
  have hB : BB g N o 4 := hB0
  refine ct_of (own := RX1) [some (.ref o), some (.int (nI p)), some (.int sd)] (by decide +kernel) rfl rfl (Nat.le_of_ble_eq_true rfl) ?_
  intro vp ve vs vm va vb vt vc hnm X
  refine v_aload_n X dX1_boxOf_0 (i := 0) rfl rfl ?_
  refine v_iload_n X dX1_boxOf_1 (i := 1) rfl rfl ?_
  refine v_cvB X rfl yv_X1_has m_ml_X1_34 0 0 (c_X1_has l g N o σ (nI p) ) hB (Nat.le_of_ble_eq_true rfl) rfl (Nat.le_of_ble_eq_true rfl) rfl (L' := (chL g o σ)) (rfl) rfl (Nat.le_of_ble_eq_true rfl) rfl rfl (Nat.le_of_ble_eq_true rfl) ⟨Nat.le_of_ble_eq_true rfl, Nat.le_of_ble_eq_true rfl⟩ ⟨Nat.le_of_ble_eq_true rfl, Nat.le_of_ble_eq_true rfl⟩ dX1_boxOf_2 rfl ?_
  refine v_if_neB X dX1_boxOf_5 (tgt := 11) (by decide) (fun c5 => ?_) (fun c5 => ?_)
  · skip
    refine v_iload_n X dX1_boxOf_11 (i := 2) rfl rfl ?_
    refine v_if_ne X dX1_boxOf_12 (tgt := 24) (by decide) (fun c12 => ?_) (fun c12 => ?_)
    · skip
      refine v_aload_n X dX1_boxOf_24 (i := 0) rfl rfl ?_
      refine v_getB X hB cf1 2 (Nat.le_of_ble_eq_true rfl) m_fl_X1_18 dX1_boxOf_25 0 (Nat.le_of_ble_eq_true rfl) rfl rfl ?_
      refine v_iload_n X dX1_boxOf_28 (i := 1) rfl rfl ?_
      refine v_iald_vw (b := 58) (s' := 3) X hB dX1_boxOf_29 3 (Nat.le_of_ble_eq_true rfl) rfl p rfl (by omega) (Nat.le_of_ble_eq_true rfl) ?_
      exact v_iret X rfl dX1_boxOf_30 (by rw [if_neg c12]) (rfl)
    · skip
      refine v_aload_n X dX1_boxOf_15 (i := 0) rfl rfl ?_
      refine v_getB X hB cf1 1 (Nat.le_of_ble_eq_true rfl) m_fl_X1_15 dX1_boxOf_16 0 (Nat.le_of_ble_eq_true rfl) rfl rfl ?_
      refine v_iload_n X dX1_boxOf_19 (i := 1) rfl rfl ?_
      refine v_iald_vw (b := 57) (s' := 3) X hB dX1_boxOf_20 2 (Nat.le_of_ble_eq_true rfl) rfl p rfl (by omega) (Nat.le_of_ble_eq_true rfl) ?_
      refine v_goto X dX1_boxOf_21 (tgt := 30) (by decide) ?_
      exact v_iret X rfl dX1_boxOf_30 (by rw [if_pos c12]) (rfl)
  · skip
    exact absurd (has_nI hC hp hC16) c5
set_option maxRecDepth 100000 in
set_option maxHeartbeats 4000000 in
theorem c_X1_append (l : Launch) (g : Ge) (N o : Nat) (σ : Nat → Int32) (C : Nat) (fr a b : Int32) (hC : σ 0 = nI C) (hC16 : C < 16) : Cb l g yX1_append (.code yX1_append cX1_append 4 none) 0 [.ref o, .int fr, .int a, .int b] N o (chL g o σ) none (chL g o (apS σ C fr a b)) := by
  intro f hB0
  have hB : BB g N o 4 := hB0
  refine ct_of (own := RX1) [some (.ref o), some (.int fr), some (.int a), some (.int b)] (by decide +kernel) rfl rfl (Nat.le_of_ble_eq_true rfl) ?_
  intro vp ve vs vm va vb vt vc hnm X
  refine v_aload_n X dX1_append_0 (i := 0) rfl rfl ?_
  refine v_getB X hB cf1 3 (Nat.le_of_ble_eq_true rfl) m_fl_X1_21 dX1_append_1 0 (Nat.le_of_ble_eq_true rfl) rfl rfl ?_
  refine v_if_lt X dX1_append_4 (tgt := 56) (by decide) (fun c4 => ?_) (fun c4 => ?_)
  · skip
    exact absurd c4 (by rw [hC]; exact nI_pos (by omega))
  · skip
    refine v_aload_n X dX1_append_7 (i := 0) rfl rfl ?_
    refine v_getB X hB cf1 3 (Nat.le_of_ble_eq_true rfl) m_fl_X1_21 dX1_append_8 0 (Nat.le_of_ble_eq_true rfl) rfl rfl ?_
    refine v_bipush X dX1_append_11 (v := (16 : Int32)) (by decide) ?_
    refine v_icmp_ge X dX1_append_13 (tgt := 56) (by decide) (fun c13 => ?_) (fun c13 => ?_)
    · skip
      exact absurd (by rw [← hC]; exact c13) (nI_ge (a := C) (b := 16) (by omega) (by omega))
    · skip
      refine v_aload_n X dX1_append_16 (i := 0) rfl rfl ?_
      refine v_getB X hB cf1 0 (Nat.le_of_ble_eq_true rfl) m_fl_X1_9 dX1_append_17 0 (Nat.le_of_ble_eq_true rfl) rfl rfl ?_
      refine v_aload_n X dX1_append_20 (i := 0) rfl rfl ?_
      refine v_getB X hB cf1 3 (Nat.le_of_ble_eq_true rfl) m_fl_X1_21 dX1_append_21 0 (Nat.le_of_ble_eq_true rfl) rfl rfl ?_
      refine v_iload_n X dX1_append_24 (i := 1) rfl rfl ?_
      refine v_iastB (n := 16) X hB dX1_append_25 1 (Nat.le_of_ble_eq_true rfl) rfl C (by rw [hC]) (by omega) (Nat.le_of_ble_eq_true rfl) (L' := (chL g o (upd σ (56 + 3 * C) fr))) (w_ch_1 (by omega)) ?_
      refine v_aload_n X dX1_append_26 (i := 0) rfl rfl ?_
      refine v_getB X hB cf1 1 (Nat.le_of_ble_eq_true rfl) m_fl_X1_15 dX1_append_27 0 (Nat.le_of_ble_eq_true rfl) rfl rfl ?_
      refine v_aload_n X dX1_append_30 (i := 0) rfl rfl ?_
      refine v_getB X hB cf1 3 (Nat.le_of_ble_eq_true rfl) m_fl_X1_21 dX1_append_31 0 (Nat.le_of_ble_eq_true rfl) rfl rfl ?_
      refine v_iload_n X dX1_append_34 (i := 2) rfl rfl ?_
      refine v_iastB (n := 16) X hB dX1_append_35 2 (Nat.le_of_ble_eq_true rfl) rfl C (by rw [pk_un (by omega), hC]) (by omega) (Nat.le_of_ble_eq_true rfl) (L' := (chL g o (upd (upd σ (56 + 3 * C) fr) (57 + 3 * C) a))) (w_ch_2 (by omega)) ?_
      refine v_aload_n X dX1_append_36 (i := 0) rfl rfl ?_
      refine v_getB X hB cf1 2 (Nat.le_of_ble_eq_true rfl) m_fl_X1_18 dX1_append_37 0 (Nat.le_of_ble_eq_true rfl) rfl rfl ?_
      refine v_aload_n X dX1_append_40 (i := 0) rfl rfl ?_
      refine v_getB X hB cf1 3 (Nat.le_of_ble_eq_true rfl) m_fl_X1_21 dX1_append_41 0 (Nat.le_of_ble_eq_true rfl) rfl rfl ?_
      refine v_iload_n X dX1_append_44 (i := 3) rfl rfl ?_
      refine v_iastB (n := 16) X hB dX1_append_45 3 (Nat.le_of_ble_eq_true rfl) rfl C (by rw [pk_un (by omega), pk_un (by omega), hC]) (by omega) (Nat.le_of_ble_eq_true rfl) (L' := (chL g o (upd (upd (upd σ (56 + 3 * C) fr) (57 + 3 * C) a) (58 + 3 * C) b))) (w_ch_3 (by omega)) ?_
      refine v_aload_n X dX1_append_46 (i := 0) rfl rfl ?_
      refine v_dup X dX1_append_47 rfl ?_
      refine v_getB X hB cf1 3 (Nat.le_of_ble_eq_true rfl) m_fl_X1_21 dX1_append_48 0 (Nat.le_of_ble_eq_true rfl) rfl rfl ?_
      refine v_iconst X dX1_append_51 (v := (1 : Int32)) (by decide) ?_
      refine v_iadd X dX1_append_52 ?_
      refine v_putB X hB cf1 3 (Nat.le_of_ble_eq_true rfl) rfl m_fl_X1_21 dX1_append_53 0 (Nat.le_of_ble_eq_true rfl) rfl rfl rfl (Nat.le_of_ble_eq_true rfl) (L' := (chL g o (upd (upd (upd (upd σ (56 + 3 * C) fr) (57 + 3 * C) a) (58 + 3 * C) b) 0 (((upd (upd (upd σ (56 + 3 * C) fr) (57 + 3 * C) a) (58 + 3 * C) b) 0) + (1 : Int32))))) w_ch_0_cards ?_
      exact v_vret X rfl dX1_append_56 (rfl) (by rw [apS, pk_un (by omega), pk_un (by omega), pk_un (by omega), hC, nI_1])
set_option maxRecDepth 100000 in
set_option maxHeartbeats 4000000 in
theorem c_X1_startAgainBehindLast (l : Launch) (g : Ge) (N o : Nat) (σ : Nat → Int32) : Cb l g yX1_startAgainBehindLast (.code yX1_startAgainBehindLast cX1_startAgainBehindLast 1 none) 0 [.ref o] N o (chL g o σ) none (chL g o (if σ 0 ≤ σ 1 then upd σ 1 0 else σ)) := by
  intro f hB0
  have hB : BB g N o 4 := hB0
  refine ct_of (own := RX1) [some (.ref o)] (by decide +kernel) rfl rfl (Nat.le_of_ble_eq_true rfl) ?_
  intro vp ve vs vm va vb vt vc hnm X
  refine v_aload_n X dX1_startAgainBehindLast_0 (i := 0) rfl rfl ?_
  refine v_getB X hB cf1 4 (Nat.le_of_ble_eq_true rfl) m_fl_X1_25 dX1_startAgainBehindLast_1 0 (Nat.le_of_ble_eq_true rfl) rfl rfl ?_
  refine v_aload_n X dX1_startAgainBehindLast_4 (i := 0) rfl rfl ?_
  refine v_getB X hB cf1 3 (Nat.le_of_ble_eq_true rfl) m_fl_X1_21 dX1_startAgainBehindLast_5 0 (Nat.le_of_ble_eq_true rfl) rfl rfl ?_
  refine v_icmp_lt X dX1_startAgainBehindLast_8 (tgt := 16) (by decide) (fun c8 => ?_) (fun c8 => ?_)
  · skip
    exact v_vret X rfl dX1_startAgainBehindLast_16 (rfl) (by rw [if_neg (Int32.not_le.mpr c8)])
  · skip
    refine v_aload_n X dX1_startAgainBehindLast_11 (i := 0) rfl rfl ?_
    refine v_iconst X dX1_startAgainBehindLast_12 (v := (0 : Int32)) (by decide) ?_
    refine v_putB X hB cf1 4 (Nat.le_of_ble_eq_true rfl) rfl m_fl_X1_25 dX1_startAgainBehindLast_13 0 (Nat.le_of_ble_eq_true rfl) rfl rfl rfl (Nat.le_of_ble_eq_true rfl) (L' := (chL g o (upd σ 1 (0 : Int32)))) w_ch_0_place ?_
    exact v_vret X rfl dX1_startAgainBehindLast_16 (rfl) (by rw [if_pos c8])
def goP (P C : Nat) : Nat := if C ≤ P + 1 then 0 else P + 1
theorem goOn_eq {σ : Nat → Int32} {P C : Nat} (hC : σ 0 = nI C) (hP : σ 1 = nI P) (hPC : P < C) (hC16 : C ≤ 16) : (if (upd σ 1 (σ 1 + 1)) 0 ≤ (upd σ 1 (σ 1 + 1)) 1 then upd (upd σ 1 (σ 1 + 1)) 1 0 else upd σ 1 (σ 1 + 1)) = upd σ 1 (nI (goP P C)) := by
  rw [pk_us, pk_un (by omega), hC, hP, nI_1, goP]
  by_cases h : C ≤ P + 1
  · rw [if_pos h, if_pos ((nI_leI (by omega) (by omega)).mpr h)]
    funext i
    by_cases e : i = 1
    · subst e; rw [pk_us, pk_us]; rfl
    · rw [pk_un e, pk_un e, pk_un e]
  · rw [if_neg h, if_neg (fun q => h ((nI_leI (by omega) (by omega)).mp q))]
set_option maxRecDepth 100000 in
set_option maxHeartbeats 4000000 in
theorem c_X1_goOn (l : Launch) (g : Ge) (N o : Nat) (σ : Nat → Int32) (P C : Nat) (hC : σ 0 = nI C) (hP : σ 1 = nI P) (hPC : P < C) (hC16 : C ≤ 16) : Cb l g yX1_goOn (.code yX1_goOn cX1_goOn 1 none) 1 [.ref o] N o (chL g o σ) none (chL g o (upd σ 1 (nI (goP P C)))) := by
  intro f hB0
  have hB : BB g N o 4 := hB0
  refine ct_of (own := RX1) [some (.ref o)] (by decide +kernel) rfl rfl (Nat.le_of_ble_eq_true rfl) ?_
  intro vp ve vs vm va vb vt vc hnm X
  refine v_aload_n X dX1_goOn_0 (i := 0) rfl rfl ?_
  refine v_dup X dX1_goOn_1 rfl ?_
  refine v_getB X hB cf1 4 (Nat.le_of_ble_eq_true rfl) m_fl_X1_25 dX1_goOn_2 0 (Nat.le_of_ble_eq_true rfl) rfl rfl ?_
  refine v_iconst X dX1_goOn_5 (v := (1 : Int32)) (by decide) ?_
  refine v_iadd X dX1_goOn_6 ?_
  refine v_putB X hB cf1 4 (Nat.le_of_ble_eq_true rfl) rfl m_fl_X1_25 dX1_goOn_7 0 (Nat.le_of_ble_eq_true rfl) rfl rfl rfl (Nat.le_of_ble_eq_true rfl) (L' := (chL g o (upd σ 1 ((σ 1) + (1 : Int32))))) w_ch_0_place ?_
  refine v_aload_n X dX1_goOn_10 (i := 0) rfl rfl ?_
  refine v_cvB X rfl yv_X1_startAgainBehindLast m_ml_X1_38 0 0 (c_X1_startAgainBehindLast l g N o (upd σ 1 ((σ 1) + (1 : Int32))) ) hB (Nat.le_of_ble_eq_true rfl) rfl (Nat.le_of_ble_eq_true rfl) rfl (L' := (chL g o (if (upd σ 1 ((σ 1) + (1 : Int32))) 0 ≤ (upd σ 1 ((σ 1) + (1 : Int32))) 1 then upd (upd σ 1 ((σ 1) + (1 : Int32))) 1 0 else (upd σ 1 ((σ 1) + (1 : Int32)))))) (rfl) rfl (Nat.le_of_ble_eq_true rfl) rfl rfl (Nat.le_of_ble_eq_true rfl) ⟨Nat.le_of_ble_eq_true rfl, Nat.le_of_ble_eq_true rfl⟩ ⟨Nat.le_of_ble_eq_true rfl, Nat.le_of_ble_eq_true rfl⟩ dX1_goOn_11 rfl ?_
  exact v_vret X rfl dX1_goOn_14 (rfl) (by rw [goOn_eq hC hP hPC hC16])
theorem rmS_eqT {σ : Nat → Int32} {k P C : Nat} (hC : σ 0 = nI C) (hP : σ 1 = nI P) (hk : k < C) (hPC : P < C) (hC16 : C ≤ 16) (h : (upd (shK σ k (C - 1)) 0 (shK σ k (C - 1) 0 - 1)) 1 ≤ nI k) : (if (upd (shK σ k (C - 1)) 0 (shK σ k (C - 1) 0 - 1)) 0 ≤ (upd (shK σ k (C - 1)) 0 (shK σ k (C - 1) 0 - 1)) 1 then upd (upd (shK σ k (C - 1)) 0 (shK σ k (C - 1) 0 - 1)) 1 0 else upd (shK σ k (C - 1)) 0 (shK σ k (C - 1) 0 - 1)) = rmS σ k P C := by
  have e0 : shK σ k (C - 1) 0 - 1 = nI (C - 1) := by rw [shK_lo (by omega), hC]; exact pk_sub (b := 1) (by omega)
  have e1 : (upd (shK σ k (C - 1)) 0 (nI (C - 1))) 1 = nI P := by rw [pk_un (by omega), shK_lo (by omega), hP]
  rw [e0, e1] at h
  rw [e0, e1, pk_us, rmS]
  have hkP : ¬ k < P := by
    have := le_of_nI (by omega) (by omega) h
    omega
  have eP : rmP k P C = if C - 1 ≤ P then 0 else P := by rw [rmP, if_neg hkP]
  rw [eP]
  by_cases q : C - 1 ≤ P
  · rw [if_pos q, if_pos ((nI_leI (by omega) (by omega)).mpr q)]; rfl
  · rw [if_neg q, if_neg (fun z => q (le_of_nI (by omega) (by omega) z))]
    funext i
    by_cases e : i = 1
    · subst e; rw [pk_us, e1]
    · rw [pk_un e]
theorem rmS_eqF {σ : Nat → Int32} {k P C : Nat} (hC : σ 0 = nI C) (hP : σ 1 = nI P) (hk : k < C) (hPC : P < C) (hC16 : C ≤ 16) (h : nI k < (upd (shK σ k (C - 1)) 0 (shK σ k (C - 1) 0 - 1)) 1) : (if (upd (upd (shK σ k (C - 1)) 0 (shK σ k (C - 1) 0 - 1)) 1 ((upd (shK σ k (C - 1)) 0 (shK σ k (C - 1) 0 - 1)) 1 - 1)) 0 ≤ (upd (upd (shK σ k (C - 1)) 0 (shK σ k (C - 1) 0 - 1)) 1 ((upd (shK σ k (C - 1)) 0 (shK σ k (C - 1) 0 - 1)) 1 - 1)) 1 then upd (upd (upd (shK σ k (C - 1)) 0 (shK σ k (C - 1) 0 - 1)) 1 ((upd (shK σ k (C - 1)) 0 (shK σ k (C - 1) 0 - 1)) 1 - 1)) 1 0 else upd (upd (shK σ k (C - 1)) 0 (shK σ k (C - 1) 0 - 1)) 1 ((upd (shK σ k (C - 1)) 0 (shK σ k (C - 1) 0 - 1)) 1 - 1)) = rmS σ k P C := by
  have e0 : shK σ k (C - 1) 0 - 1 = nI (C - 1) := by rw [shK_lo (by omega), hC]; exact pk_sub (b := 1) (by omega)
  have e1 : (upd (shK σ k (C - 1)) 0 (nI (C - 1))) 1 = nI P := by rw [pk_un (by omega), shK_lo (by omega), hP]
  rw [e0, e1] at h
  have hkP : k < P := lt_of_nI (by omega) (by omega) h
  have e2 : nI P - 1 = nI (P - 1) := pk_sub (b := 1) (by omega)
  rw [e0, e1, e2, pk_us, pk_un (show 0 ≠ 1 by omega), pk_us, rmS]
  have eP : rmP k P C = if C - 1 ≤ P - 1 then 0 else P - 1 := by rw [rmP, if_pos hkP]
  rw [eP, if_neg (show ¬ C - 1 ≤ P - 1 by omega), if_neg (fun z => absurd (le_of_nI (by omega) (by omega) z) (by omega))]
set_option maxRecDepth 100000 in
set_option maxHeartbeats 4000000 in
theorem c_X1_remove (l : Launch) (g : Ge) (N o : Nat) (σ : Nat → Int32) (k P C : Nat) (hC : σ 0 = nI C) (hP : σ 1 = nI P) (hk : k < C) (hPC : P < C) (hC16 : C ≤ 16) : Cb l g yX1_remove (.code yX1_remove cX1_remove 3 none) 1 [.ref o, .int (nI k)] N o (chL g o σ) none (chL g o (rmS σ k P C)) := by
  intro f hB0
  have hB : BB g N o 4 := hB0
  refine ct_of (own := RX1) [some (.ref o), some (.int (nI k)), none] (by decide +kernel) rfl rfl (Nat.le_of_ble_eq_true rfl) ?_
  intro vp ve vs vm va vb vt vc hnm X
  refine v_aload_n X dX1_remove_0 (i := 0) rfl rfl ?_
  refine v_iload_n X dX1_remove_1 (i := 1) rfl rfl ?_
  refine v_cvB X rfl yv_X1_has m_ml_X1_34 0 0 (c_X1_has l g N o σ (nI k) ) hB (Nat.le_of_ble_eq_true rfl) rfl (Nat.le_of_ble_eq_true rfl) rfl (L' := (chL g o σ)) (rfl) rfl (Nat.le_of_ble_eq_true rfl) rfl rfl (Nat.le_of_ble_eq_true rfl) ⟨Nat.le_of_ble_eq_true rfl, Nat.le_of_ble_eq_true rfl⟩ ⟨Nat.le_of_ble_eq_true rfl, Nat.le_of_ble_eq_true rfl⟩ dX1_remove_2 rfl ?_
  refine v_if_neB X dX1_remove_5 (tgt := 9) (by decide) (fun c5 => ?_) (fun c5 => ?_)
  · skip
    refine v_iload_n X dX1_remove_9 (i := 1) rfl rfl ?_
    refine v_istore_n X dX1_remove_10 (i := 2) rfl (Nat.le_of_ble_eq_true rfl) rfl ?_
    have LP11 : ∀ (n_ : Nat) (j : Nat), (k ≤ j) → (j < C) → 16 - j < n_ → Vm vp l ve vs vm va vb vt vc g 1 3 N none (ovr f o (chL g o (rmS σ k P C))) (ovr f o (chL g o (shK σ k j))) 11 [some (.ref o), some (.int (nI k)), some (.int (nI j))] [] := by
      intro n_
      induction n_ with
      | zero => intro j hkj hj hm_; exact absurd hm_ (Nat.not_lt_zero _)
      | succ n_ ih11 =>
        intro j hkj hj hm11
        refine v_iload_n X dX1_remove_11 (i := 2) rfl rfl ?_
        refine v_iconst X dX1_remove_12 (v := (1 : Int32)) (by decide) ?_
        refine v_iadd X dX1_remove_13 ?_
        refine v_aload_n X dX1_remove_14 (i := 0) rfl rfl ?_
        refine v_getB X hB cf1 3 (Nat.le_of_ble_eq_true rfl) m_fl_X1_21 dX1_remove_15 0 (Nat.le_of_ble_eq_true rfl) rfl rfl ?_
        refine v_icmp_ge X dX1_remove_18 (tgt := 77) (by decide) (fun c18 => ?_) (fun c18 => ?_)
        · skip
          have hjC : j = C - 1 := by
            rw [shK_lo (by omega), hC] at c18
            rw [nI_1] at c18
            have := le_of_nI (by omega) (by omega) c18
            omega
          refine v_aload_n X dX1_remove_77 (i := 0) rfl rfl ?_
          refine v_dup X dX1_remove_78 rfl ?_
          refine v_getB X hB cf1 3 (Nat.le_of_ble_eq_true rfl) m_fl_X1_21 dX1_remove_79 0 (Nat.le_of_ble_eq_true rfl) rfl rfl ?_
          refine v_iconst X dX1_remove_82 (v := (1 : Int32)) (by decide) ?_
          refine v_isub X dX1_remove_83 ?_
          refine v_putB X hB cf1 3 (Nat.le_of_ble_eq_true rfl) rfl m_fl_X1_21 dX1_remove_84 0 (Nat.le_of_ble_eq_true rfl) rfl rfl rfl (Nat.le_of_ble_eq_true rfl) (L' := (chL g o (upd (shK σ k j) 0 (((shK σ k j) 0) - (1 : Int32))))) w_ch_0_cards ?_
          refine v_iload_n X dX1_remove_87 (i := 1) rfl rfl ?_
          refine v_aload_n X dX1_remove_88 (i := 0) rfl rfl ?_
          refine v_getB X hB cf1 4 (Nat.le_of_ble_eq_true rfl) m_fl_X1_25 dX1_remove_89 0 (Nat.le_of_ble_eq_true rfl) rfl rfl ?_
          refine v_icmp_ge X dX1_remove_92 (tgt := 105) (by decide) (fun c92 => ?_) (fun c92 => ?_)
          · skip
            refine v_aload_n X dX1_remove_105 (i := 0) rfl rfl ?_
            refine v_cvB X rfl yv_X1_startAgainBehindLast m_ml_X1_38 0 0 (c_X1_startAgainBehindLast l g N o (upd (shK σ k j) 0 (((shK σ k j) 0) - (1 : Int32))) ) hB (Nat.le_of_ble_eq_true rfl) rfl (Nat.le_of_ble_eq_true rfl) rfl (L' := (chL g o (if (upd (shK σ k j) 0 (((shK σ k j) 0) - (1 : Int32))) 0 ≤ (upd (shK σ k j) 0 (((shK σ k j) 0) - (1 : Int32))) 1 then upd (upd (shK σ k j) 0 (((shK σ k j) 0) - (1 : Int32))) 1 0 else (upd (shK σ k j) 0 (((shK σ k j) 0) - (1 : Int32)))))) (rfl) rfl (Nat.le_of_ble_eq_true rfl) rfl rfl (Nat.le_of_ble_eq_true rfl) ⟨Nat.le_of_ble_eq_true rfl, Nat.le_of_ble_eq_true rfl⟩ ⟨Nat.le_of_ble_eq_true rfl, Nat.le_of_ble_eq_true rfl⟩ dX1_remove_106 rfl ?_
            exact v_vret X rfl dX1_remove_109 (rfl) (by subst hjC; rw [rmS_eqT hC hP hk hPC hC16 c92])
          · skip
            refine v_aload_n X dX1_remove_95 (i := 0) rfl rfl ?_
            refine v_dup X dX1_remove_96 rfl ?_
            refine v_getB X hB cf1 4 (Nat.le_of_ble_eq_true rfl) m_fl_X1_25 dX1_remove_97 0 (Nat.le_of_ble_eq_true rfl) rfl rfl ?_
            refine v_iconst X dX1_remove_100 (v := (1 : Int32)) (by decide) ?_
            refine v_isub X dX1_remove_101 ?_
            refine v_putB X hB cf1 4 (Nat.le_of_ble_eq_true rfl) rfl m_fl_X1_25 dX1_remove_102 0 (Nat.le_of_ble_eq_true rfl) rfl rfl rfl (Nat.le_of_ble_eq_true rfl) (L' := (chL g o (upd (upd (shK σ k j) 0 (((shK σ k j) 0) - (1 : Int32))) 1 (((upd (shK σ k j) 0 (((shK σ k j) 0) - (1 : Int32))) 1) - (1 : Int32))))) w_ch_0_place ?_
            refine v_aload_n X dX1_remove_105 (i := 0) rfl rfl ?_
            refine v_cvB X rfl yv_X1_startAgainBehindLast m_ml_X1_38 0 0 (c_X1_startAgainBehindLast l g N o (upd (upd (shK σ k j) 0 (((shK σ k j) 0) - (1 : Int32))) 1 (((upd (shK σ k j) 0 (((shK σ k j) 0) - (1 : Int32))) 1) - (1 : Int32))) ) hB (Nat.le_of_ble_eq_true rfl) rfl (Nat.le_of_ble_eq_true rfl) rfl (L' := (chL g o (if (upd (upd (shK σ k j) 0 (((shK σ k j) 0) - (1 : Int32))) 1 (((upd (shK σ k j) 0 (((shK σ k j) 0) - (1 : Int32))) 1) - (1 : Int32))) 0 ≤ (upd (upd (shK σ k j) 0 (((shK σ k j) 0) - (1 : Int32))) 1 (((upd (shK σ k j) 0 (((shK σ k j) 0) - (1 : Int32))) 1) - (1 : Int32))) 1 then upd (upd (upd (shK σ k j) 0 (((shK σ k j) 0) - (1 : Int32))) 1 (((upd (shK σ k j) 0 (((shK σ k j) 0) - (1 : Int32))) 1) - (1 : Int32))) 1 0 else (upd (upd (shK σ k j) 0 (((shK σ k j) 0) - (1 : Int32))) 1 (((upd (shK σ k j) 0 (((shK σ k j) 0) - (1 : Int32))) 1) - (1 : Int32)))))) (rfl) rfl (Nat.le_of_ble_eq_true rfl) rfl rfl (Nat.le_of_ble_eq_true rfl) ⟨Nat.le_of_ble_eq_true rfl, Nat.le_of_ble_eq_true rfl⟩ ⟨Nat.le_of_ble_eq_true rfl, Nat.le_of_ble_eq_true rfl⟩ dX1_remove_106 rfl ?_
            exact v_vret X rfl dX1_remove_109 (rfl) (by subst hjC; rw [rmS_eqF hC hP hk hPC hC16 c92])
        · skip
          have hjC : j + 1 < C := by
            rw [shK_lo (by omega), hC] at c18
            rw [nI_1] at c18
            exact lt_of_nI (by omega) (by omega) c18
          refine v_iload_n X dX1_remove_21 (i := 2) rfl rfl ?_
          refine v_iconst X dX1_remove_22 (v := (1 : Int32)) (by decide) ?_
          refine v_iadd X dX1_remove_23 ?_
          refine v_bipush X dX1_remove_24 (v := (16 : Int32)) (by decide) ?_
          refine v_icmp_ge X dX1_remove_26 (tgt := 77) (by decide) (fun c26 => ?_) (fun c26 => ?_)
          · skip
            rw [nI_1] at c26
            exact absurd (le_of_nI (a := 16) (by omega) (by omega) c26) (by omega)
          · skip
            refine v_aload_n X dX1_remove_29 (i := 0) rfl rfl ?_
            refine v_getB X hB cf1 0 (Nat.le_of_ble_eq_true rfl) m_fl_X1_9 dX1_remove_30 0 (Nat.le_of_ble_eq_true rfl) rfl rfl ?_
            refine v_iload_n X dX1_remove_33 (i := 2) rfl rfl ?_
            refine v_aload_n X dX1_remove_34 (i := 0) rfl rfl ?_
            refine v_getB X hB cf1 0 (Nat.le_of_ble_eq_true rfl) m_fl_X1_9 dX1_remove_35 0 (Nat.le_of_ble_eq_true rfl) rfl rfl ?_
            refine v_iload_n X dX1_remove_38 (i := 2) rfl rfl ?_
            refine v_iconst X dX1_remove_39 (v := (1 : Int32)) (by decide) ?_
            refine v_iadd X dX1_remove_40 ?_
            refine v_iald_vw (b := 56) (s' := 3) X hB dX1_remove_41 1 (Nat.le_of_ble_eq_true rfl) rfl (j + 1) (ix_add rfl rfl) (by omega) (Nat.le_of_ble_eq_true rfl) ?_
            refine v_iastB (n := 16) X hB dX1_remove_42 1 (Nat.le_of_ble_eq_true rfl) rfl j rfl (by omega) (Nat.le_of_ble_eq_true rfl) (L' := (chL g o (upd (shK σ k j) (56 + 3 * j) ((shK σ k j) (56 + 3 * (j + 1)))))) (w_ch_1 (by omega)) ?_
            refine v_aload_n X dX1_remove_43 (i := 0) rfl rfl ?_
            refine v_getB X hB cf1 1 (Nat.le_of_ble_eq_true rfl) m_fl_X1_15 dX1_remove_44 0 (Nat.le_of_ble_eq_true rfl) rfl rfl ?_
            refine v_iload_n X dX1_remove_47 (i := 2) rfl rfl ?_
            refine v_aload_n X dX1_remove_48 (i := 0) rfl rfl ?_
            refine v_getB X hB cf1 1 (Nat.le_of_ble_eq_true rfl) m_fl_X1_15 dX1_remove_49 0 (Nat.le_of_ble_eq_true rfl) rfl rfl ?_
            refine v_iload_n X dX1_remove_52 (i := 2) rfl rfl ?_
            refine v_iconst X dX1_remove_53 (v := (1 : Int32)) (by decide) ?_
            refine v_iadd X dX1_remove_54 ?_
            refine v_iald_vw (b := 57) (s' := 3) X hB dX1_remove_55 2 (Nat.le_of_ble_eq_true rfl) rfl (j + 1) (ix_add rfl rfl) (by omega) (Nat.le_of_ble_eq_true rfl) ?_
            refine v_iastB (n := 16) X hB dX1_remove_56 2 (Nat.le_of_ble_eq_true rfl) rfl j rfl (by omega) (Nat.le_of_ble_eq_true rfl) (L' := (chL g o (upd (upd (shK σ k j) (56 + 3 * j) ((shK σ k j) (56 + 3 * (j + 1)))) (57 + 3 * j) ((upd (shK σ k j) (56 + 3 * j) ((shK σ k j) (56 + 3 * (j + 1)))) (57 + 3 * (j + 1)))))) (w_ch_2 (by omega)) ?_
            refine v_aload_n X dX1_remove_57 (i := 0) rfl rfl ?_
            refine v_getB X hB cf1 2 (Nat.le_of_ble_eq_true rfl) m_fl_X1_18 dX1_remove_58 0 (Nat.le_of_ble_eq_true rfl) rfl rfl ?_
            refine v_iload_n X dX1_remove_61 (i := 2) rfl rfl ?_
            refine v_aload_n X dX1_remove_62 (i := 0) rfl rfl ?_
            refine v_getB X hB cf1 2 (Nat.le_of_ble_eq_true rfl) m_fl_X1_18 dX1_remove_63 0 (Nat.le_of_ble_eq_true rfl) rfl rfl ?_
            refine v_iload_n X dX1_remove_66 (i := 2) rfl rfl ?_
            refine v_iconst X dX1_remove_67 (v := (1 : Int32)) (by decide) ?_
            refine v_iadd X dX1_remove_68 ?_
            refine v_iald_vw (b := 58) (s' := 3) X hB dX1_remove_69 3 (Nat.le_of_ble_eq_true rfl) rfl (j + 1) (ix_add rfl rfl) (by omega) (Nat.le_of_ble_eq_true rfl) ?_
            refine v_iastB (n := 16) X hB dX1_remove_70 3 (Nat.le_of_ble_eq_true rfl) rfl j rfl (by omega) (Nat.le_of_ble_eq_true rfl) (L' := (chL g o (upd (upd (upd (shK σ k j) (56 + 3 * j) ((shK σ k j) (56 + 3 * (j + 1)))) (57 + 3 * j) ((upd (shK σ k j) (56 + 3 * j) ((shK σ k j) (56 + 3 * (j + 1)))) (57 + 3 * (j + 1)))) (58 + 3 * j) ((upd (upd (shK σ k j) (56 + 3 * j) ((shK σ k j) (56 + 3 * (j + 1)))) (57 + 3 * j) ((upd (shK σ k j) (56 + 3 * j) ((shK σ k j) (56 + 3 * (j + 1)))) (57 + 3 * (j + 1)))) (58 + 3 * (j + 1)))))) (w_ch_3 (by omega)) ?_
            refine v_iinc X dX1_remove_71 (v := nI (j + 1)) rfl (ix_inc rfl) (Nat.le_of_ble_eq_true rfl) rfl ?_
            refine v_goto X dX1_remove_74 (tgt := 11) (by decide) ?_
            exact V.cast (ih11 (j + 1) (by omega) hjC (by omega)) (rfl) (rfl) (by rw [← shK_st hkj]; rw [pk_un (by omega), pk_un (by omega), pk_un (by omega), shK_hi (by omega), shK_hi (by omega), shK_hi (by omega)])
    exact V.cast (LP11 _ k (Nat.le_refl _) hk (Nat.lt_succ_self _)) (rfl) (rfl) (by rw [shK_0])
  · skip
    exact absurd (has_nI hC hk hC16) c5
end
